section
-- ===== PART A: goes FIRST, ahead of the names: the tables' words, and 'selects' of the private methods out of them =====
/-- a private method of a class that the tables say can be made, by its rows of tables_1 -/
def lw_okq (q : MethodName × Nat) : Prop := (q.1.cls ≠ "java/lang/invoke/MethodHandle" ∧ q.1.cls ≠ "java/lang/invoke/VarHandle") ∧ Cond.instantiable q.1.cls q.2 ∈ tables_1 ∧ Cond.privateMethod q.1 ∈ tables_1 ∧ Cond.instanceMethod q.1 ∈ tables_1
theorem lw_p0 : lw_okq (⟨"RenewalClocks$Clock", "fillRound", "()V"⟩, 10) := ⟨⟨by decide +kernel, by decide +kernel⟩, List.mem_of_getElem? (i := 30) (by decide +kernel), List.mem_of_getElem? (i := 317) (by decide +kernel), List.mem_of_getElem? (i := 318) (by decide +kernel)⟩
theorem lw_p1 : lw_okq (⟨"RenewalClocks$Hall", "beginGap", "(LRenewalClocks$Clock;)V"⟩, 6) := ⟨⟨by decide +kernel, by decide +kernel⟩, List.mem_of_getElem? (i := 21) (by decide +kernel), List.mem_of_getElem? (i := 325) (by decide +kernel), List.mem_of_getElem? (i := 326) (by decide +kernel)⟩
theorem lw_p2 : lw_okq (⟨"RenewalClocks$Hall", "draw", "(I)I"⟩, 6) := ⟨⟨by decide +kernel, by decide +kernel⟩, List.mem_of_getElem? (i := 21) (by decide +kernel), List.mem_of_getElem? (i := 329) (by decide +kernel), List.mem_of_getElem? (i := 330) (by decide +kernel)⟩
theorem lw_p3 : lw_okq (⟨"RenewalClocks", "settle", "(I)I"⟩, 5) := ⟨⟨by decide +kernel, by decide +kernel⟩, List.mem_of_getElem? (i := 13) (by decide +kernel), List.mem_of_getElem? (i := 341) (by decide +kernel), List.mem_of_getElem? (i := 342) (by decide +kernel)⟩
theorem lw_p4 : lw_okq (⟨"RenewalClocks$Hall", "clocksAhead", "(II)I"⟩, 6) := ⟨⟨by decide +kernel, by decide +kernel⟩, List.mem_of_getElem? (i := 21) (by decide +kernel), List.mem_of_getElem? (i := 497) (by decide +kernel), List.mem_of_getElem? (i := 498) (by decide +kernel)⟩
def lw_privs_1 : List (MethodName × Nat) := [(⟨"RenewalClocks$Clock", "fillRound", "()V"⟩, 10), (⟨"RenewalClocks$Hall", "beginGap", "(LRenewalClocks$Clock;)V"⟩, 6), (⟨"RenewalClocks$Hall", "draw", "(I)I"⟩, 6), (⟨"RenewalClocks", "settle", "(I)I"⟩, 5), (⟨"RenewalClocks$Hall", "clocksAhead", "(II)I"⟩, 6)]
theorem lw_r1 : ∀ q ∈ lw_privs_1, lw_okq q := List.forall_mem_cons.mpr ⟨lw_p0, List.forall_mem_cons.mpr ⟨lw_p1, List.forall_mem_cons.mpr ⟨lw_p2, List.forall_mem_cons.mpr ⟨lw_p3, List.forall_mem_cons.mpr ⟨lw_p4, fun _ h => absurd h List.not_mem_nil⟩⟩⟩⟩⟩
def lw_privs : List (MethodName × Nat) := lw_privs_1
def lw_tbl : List Cond := k2_sels lw_privs ++ tables_1
theorem lw_privs_ok : ∀ q ∈ lw_privs, lw_okq q := lw_r1
def RX0 : String := "RenewalClocks$Clock"
def TX0 : u_T := fun k => match k with
  | 0 => ("RenewalClocks$Clock", "law", "I", false)
  | 1 => ("RenewalClocks$Clock", "numbers", "[I", true)
  | 2 => ("RenewalClocks$Clock", "place", "I", false)
  | 3 => ("RenewalClocks$Clock", "gap", "I", false)
  | 4 => ("RenewalClocks$Clock", "rest", "I", false)
  | 5 => ("RenewalClocks$Clock", "passengers", "I", false)
  | 6 => ("RenewalClocks$Clock", "waited", "I", false)
  | 7 => ("RenewalClocks$Clock", "wound", "I", false)
  | 8 => ("RenewalClocks$Clock", "told", "LRenewalClocks$Gaps;", true)
  | _ => ("RenewalClocks$Clock", "round", "LRenewalClocks$Gaps;", true)
def tyX0 : Nat → FieldType := fun k => match k with
  | 0 => .int
  | 1 => .array .int
  | 2 => .int
  | 3 => .int
  | 4 => .int
  | 5 => .int
  | 6 => .int
  | 7 => .int
  | 8 => .object "RenewalClocks$Gaps"
  | _ => .object "RenewalClocks$Gaps"
theorem nmX0 : ∀ a, a < 10 → ∀ b, b < 10 → a ≠ b → (TX0 a).2.1 ≠ (TX0 b).2.1 := by decide +kernel
theorem tyX0_ok : ∀ k, k < 10 → parseFieldDescriptor (TX0 k).2.2.1 = some (tyX0 k) := by decide +kernel
abbrev cX0_init : ByteArray := prog_2_method_1_code
def yX0_init : MethodName := ⟨RX0, "<init>", "()V"⟩
abbrev cX0_set : ByteArray := prog_2_method_2_code
def yX0_set : MethodName := ⟨RX0, "set", "(IIIII)V"⟩
abbrev cX0_fillRound : ByteArray := prog_2_method_3_code
def yX0_fillRound : MethodName := ⟨RX0, "fillRound", "()V"⟩
abbrev cX0_copyFrom : ByteArray := prog_2_method_4_code
def yX0_copyFrom : MethodName := ⟨RX0, "copyFrom", "(LRenewalClocks$Clock;)V"⟩
abbrev cX0_age : ByteArray := prog_2_method_5_code
def yX0_age : MethodName := ⟨RX0, "age", "()I"⟩
abbrev cX0_placeInTurn : ByteArray := prog_2_method_6_code
def yX0_placeInTurn : MethodName := ⟨RX0, "placeInTurn", "()I"⟩
abbrev cX0_beginAt : ByteArray := prog_2_method_7_code
def yX0_beginAt : MethodName := ⟨RX0, "beginAt", "(I)V"⟩
abbrev cX0_passTick : ByteArray := prog_2_method_8_code
def yX0_passTick : MethodName := ⟨RX0, "passTick", "()Z"⟩
abbrev cX0_tell : ByteArray := prog_2_method_9_code
def yX0_tell : MethodName := ⟨RX0, "tell", "(I)I"⟩
def RX1 : String := "RenewalClocks$Gaps"
def TX1 : u_T := fun k => match k with
  | 0 => ("RenewalClocks$Gaps", "many", "I", false)
  | 1 => ("RenewalClocks$Gaps", "sum", "I", false)
  | 2 => ("RenewalClocks$Gaps", "squares", "I", false)
  | 3 => ("RenewalClocks$Gaps", "waits", "I", false)
  | _ => ("RenewalClocks$Gaps", "longest", "I", false)
def tyX1 : Nat → FieldType := fun k => match k with
  | 0 => .int
  | 1 => .int
  | 2 => .int
  | 3 => .int
  | _ => .int
theorem nmX1 : ∀ a, a < 5 → ∀ b, b < 5 → a ≠ b → (TX1 a).2.1 ≠ (TX1 b).2.1 := by decide +kernel
theorem tyX1_ok : ∀ k, k < 5 → parseFieldDescriptor (TX1 k).2.2.1 = some (tyX1 k) := by decide +kernel
abbrev cX1_init : ByteArray := prog_3_method_1_code
def yX1_init : MethodName := ⟨RX1, "<init>", "()V"⟩
abbrev cX1_empty : ByteArray := prog_3_method_2_code
def yX1_empty : MethodName := ⟨RX1, "empty", "()V"⟩
abbrev cX1_add : ByteArray := prog_3_method_3_code
def yX1_add : MethodName := ⟨RX1, "add", "(II)V"⟩
abbrev cX1_copyFrom : ByteArray := prog_3_method_4_code
def yX1_copyFrom : MethodName := ⟨RX1, "copyFrom", "(LRenewalClocks$Gaps;)V"⟩
def RX2 : String := "RenewalClocks$Group"
def TX2 : u_T := fun k => match k with
  | 0 => ("RenewalClocks$Group", "law", "I", false)
  | 1 => ("RenewalClocks$Group", "members", "I", false)
  | 2 => ("RenewalClocks$Group", "told", "I", false)
  | _ => ("RenewalClocks$Group", "met", "I", false)
def tyX2 : Nat → FieldType := fun k => match k with
  | 0 => .int
  | 1 => .int
  | 2 => .int
  | _ => .int
theorem nmX2 : ∀ a, a < 4 → ∀ b, b < 4 → a ≠ b → (TX2 a).2.1 ≠ (TX2 b).2.1 := by decide +kernel
theorem tyX2_ok : ∀ k, k < 4 → parseFieldDescriptor (TX2 k).2.2.1 = some (tyX2 k) := by decide +kernel
abbrev cX2_init : ByteArray := prog_4_method_1_code
def yX2_init : MethodName := ⟨RX2, "<init>", "()V"⟩
abbrev cX2_set : ByteArray := prog_4_method_2_code
def yX2_set : MethodName := ⟨RX2, "set", "(I)V"⟩
abbrev cX2_copyFrom : ByteArray := prog_4_method_3_code
def yX2_copyFrom : MethodName := ⟨RX2, "copyFrom", "(LRenewalClocks$Group;)V"⟩
abbrev cX2_has : ByteArray := prog_4_method_4_code
def yX2_has : MethodName := ⟨RX2, "has", "(I)Z"⟩
abbrev cX2_size : ByteArray := prog_4_method_5_code
def yX2_size : MethodName := ⟨RX2, "size", "()I"⟩
abbrev cX2_passTick : ByteArray := prog_4_method_6_code
def yX2_passTick : MethodName := ⟨RX2, "passTick", "(I)V"⟩
def RX3 : String := "RenewalClocks$Hall"
def TX3 : u_T := fun k => match k with
  | 0 => ("RenewalClocks$Hall", "clocks", "[LRenewalClocks$Clock;", true)
  | 1 => ("RenewalClocks$Hall", "clockCount", "I", false)
  | 2 => ("RenewalClocks$Hall", "groups", "[LRenewalClocks$Group;", true)
  | 3 => ("RenewalClocks$Hall", "groupCount", "I", false)
  | 4 => ("RenewalClocks$Hall", "now", "I", false)
  | _ => ("RenewalClocks$Hall", "drawn", "I", false)
def tyX3 : Nat → FieldType := fun k => match k with
  | 0 => .array (.object "RenewalClocks$Clock")
  | 1 => .int
  | 2 => .array (.object "RenewalClocks$Group")
  | 3 => .int
  | 4 => .int
  | _ => .int
theorem nmX3 : ∀ a, a < 6 → ∀ b, b < 6 → a ≠ b → (TX3 a).2.1 ≠ (TX3 b).2.1 := by decide +kernel
theorem tyX3_ok : ∀ k, k < 6 → parseFieldDescriptor (TX3 k).2.2.1 = some (tyX3 k) := by decide +kernel
abbrev cX3_init : ByteArray := prog_5_method_1_code
def yX3_init : MethodName := ⟨RX3, "<init>", "()V"⟩
abbrev cX3_copyFrom : ByteArray := prog_5_method_2_code
def yX3_copyFrom : MethodName := ⟨RX3, "copyFrom", "(LRenewalClocks$Hall;)V"⟩
abbrev cX3_clockAt : ByteArray := prog_5_method_3_code
def yX3_clockAt : MethodName := ⟨RX3, "clockAt", "(I)LRenewalClocks$Clock;"⟩
abbrev cX3_groupAt : ByteArray := prog_5_method_4_code
def yX3_groupAt : MethodName := ⟨RX3, "groupAt", "(I)LRenewalClocks$Group;"⟩
abbrev cX3_addClock : ByteArray := prog_5_method_5_code
def yX3_addClock : MethodName := ⟨RX3, "addClock", "(IIIII)I"⟩
abbrev cX3_windClock : ByteArray := prog_5_method_6_code
def yX3_windClock : MethodName := ⟨RX3, "windClock", "(I)I"⟩
abbrev cX3_beginGap : ByteArray := prog_5_method_7_code
def yX3_beginGap : MethodName := ⟨RX3, "beginGap", "(LRenewalClocks$Clock;)V"⟩
abbrev cX3_draw : ByteArray := prog_5_method_8_code
def yX3_draw : MethodName := ⟨RX3, "draw", "(I)I"⟩
abbrev cX3_endTicks : ByteArray := prog_5_method_9_code
def yX3_endTicks : MethodName := ⟨RX3, "endTicks", "(I)I"⟩
abbrev cX3_endTick : ByteArray := prog_5_method_10_code
def yX3_endTick : MethodName := ⟨RX3, "endTick", "()I"⟩
abbrev cX3_addPassenger : ByteArray := prog_5_method_11_code
def yX3_addPassenger : MethodName := ⟨RX3, "addPassenger", "(I)I"⟩
abbrev cX3_addGroup : ByteArray := prog_5_method_12_code
def yX3_addGroup : MethodName := ⟨RX3, "addGroup", "(I)I"⟩
abbrev cX3_joinGroup : ByteArray := prog_5_method_13_code
def yX3_joinGroup : MethodName := ⟨RX3, "joinGroup", "(II)I"⟩
abbrev cX3_leaveGroup : ByteArray := prog_5_method_14_code
def yX3_leaveGroup : MethodName := ⟨RX3, "leaveGroup", "(II)I"⟩
abbrev cX3_leastRest : ByteArray := prog_5_method_15_code
def yX3_leastRest : MethodName := ⟨RX3, "leastRest", "(I)I"⟩
abbrev cX3_sumOver : ByteArray := prog_5_method_16_code
def yX3_sumOver : MethodName := ⟨RX3, "sumOver", "(II)I"⟩
abbrev cX3_clockInPlace : ByteArray := prog_5_method_17_code
def yX3_clockInPlace : MethodName := ⟨RX3, "clockInPlace", "(I)I"⟩
abbrev cX3_clocksAhead : ByteArray := prog_5_method_18_code
def yX3_clocksAhead : MethodName := ⟨RX3, "clocksAhead", "(II)I"⟩
abbrev cX3_aboutToTell : ByteArray := prog_5_method_20_code
def yX3_aboutToTell : MethodName := ⟨RX3, "aboutToTell", "()I"⟩
abbrev cX3_greatestAge : ByteArray := prog_5_method_21_code
def yX3_greatestAge : MethodName := ⟨RX3, "greatestAge", "()I"⟩
def RX4 : String := "RenewalClocks$History"
def TX4 : u_T := fun k => match k with
  | 0 => ("RenewalClocks$History", "slots", "[LRenewalClocks$Hall;", true)
  | _ => ("RenewalClocks$History", "kept", "I", false)
def tyX4 : Nat → FieldType := fun k => match k with
  | 0 => .array (.object "RenewalClocks$Hall")
  | _ => .int
theorem nmX4 : ∀ a, a < 2 → ∀ b, b < 2 → a ≠ b → (TX4 a).2.1 ≠ (TX4 b).2.1 := by decide +kernel
theorem tyX4_ok : ∀ k, k < 2 → parseFieldDescriptor (TX4 k).2.2.1 = some (tyX4 k) := by decide +kernel
abbrev cX4_init : ByteArray := prog_6_method_1_code
def yX4_init : MethodName := ⟨RX4, "<init>", "()V"⟩
abbrev cX4_note : ByteArray := prog_6_method_2_code
def yX4_note : MethodName := ⟨RX4, "note", "(LRenewalClocks$Hall;)V"⟩
abbrev cX4_keep : ByteArray := prog_6_method_3_code
def yX4_keep : MethodName := ⟨RX4, "keep", "()V"⟩
def RX5 : String := "RenewalClocks$Orders"
def TX5 : u_T := fun k => match k with
  | 0 => ("RenewalClocks$Orders", "text", "LRenewalClocks$Text;", true)
  | 1 => ("RenewalClocks$Orders", "numbers", "[I", true)
  | 2 => ("RenewalClocks$Orders", "start", "I", false)
  | 3 => ("RenewalClocks$Orders", "at", "I", false)
  | 4 => ("RenewalClocks$Orders", "many", "I", false)
  | 5 => ("RenewalClocks$Orders", "reason", "I", false)
  | _ => ("RenewalClocks$Orders", "cause", "I", false)
def tyX5 : Nat → FieldType := fun k => match k with
  | 0 => .object "RenewalClocks$Text"
  | 1 => .array .int
  | 2 => .int
  | 3 => .int
  | 4 => .int
  | 5 => .int
  | _ => .int
theorem nmX5 : ∀ a, a < 7 → ∀ b, b < 7 → a ≠ b → (TX5 a).2.1 ≠ (TX5 b).2.1 := by decide +kernel
theorem tyX5_ok : ∀ k, k < 7 → parseFieldDescriptor (TX5 k).2.2.1 = some (tyX5 k) := by decide +kernel
abbrev cX5_init : ByteArray := prog_7_method_1_code
def yX5_init : MethodName := ⟨RX5, "<init>", "(LRenewalClocks$Text;)V"⟩
def RX6 : String := "RenewalClocks$Text"
def TX6 : u_T := fun k => match k with
  | 0 => ("RenewalClocks$Text", "signs", "[C", true)
  | _ => ("RenewalClocks$Text", "length", "I", false)
def tyX6 : Nat → FieldType := fun k => match k with
  | 0 => .array .char
  | _ => .int
theorem nmX6 : ∀ a, a < 2 → ∀ b, b < 2 → a ≠ b → (TX6 a).2.1 ≠ (TX6 b).2.1 := by decide +kernel
theorem tyX6_ok : ∀ k, k < 2 → parseFieldDescriptor (TX6 k).2.2.1 = some (tyX6 k) := by decide +kernel
abbrev cX6_init : ByteArray := prog_8_method_1_code
def yX6_init : MethodName := ⟨RX6, "<init>", "()V"⟩
def RX7 : String := "RenewalClocks"
def TX7 : u_T := fun k => match k with
  | 0 => ("RenewalClocks", "hall", "LRenewalClocks$Hall;", true)
  | 1 => ("RenewalClocks", "trial", "LRenewalClocks$Hall;", true)
  | 2 => ("RenewalClocks", "history", "LRenewalClocks$History;", true)
  | 3 => ("RenewalClocks", "text", "LRenewalClocks$Text;", true)
  | _ => ("RenewalClocks", "orders", "LRenewalClocks$Orders;", true)
def tyX7 : Nat → FieldType := fun k => match k with
  | 0 => .object "RenewalClocks$Hall"
  | 1 => .object "RenewalClocks$Hall"
  | 2 => .object "RenewalClocks$History"
  | 3 => .object "RenewalClocks$Text"
  | _ => .object "RenewalClocks$Orders"
theorem nmX7 : ∀ a, a < 5 → ∀ b, b < 5 → a ≠ b → (TX7 a).2.1 ≠ (TX7 b).2.1 := by decide +kernel
theorem tyX7_ok : ∀ k, k < 5 → parseFieldDescriptor (TX7 k).2.2.1 = some (tyX7 k) := by decide +kernel
abbrev cX7_init : ByteArray := prog_1_method_1_code
def yX7_init : MethodName := ⟨RX7, "<init>", "()V"⟩
abbrev cX7_clock : ByteArray := prog_1_method_2_code
def yX7_clock : MethodName := ⟨RX7, "clock", "(IIIII)I"⟩
abbrev cX7_wind : ByteArray := prog_1_method_3_code
def yX7_wind : MethodName := ⟨RX7, "wind", "(I)I"⟩
abbrev cX7_tick : ByteArray := prog_1_method_4_code
def yX7_tick : MethodName := ⟨RX7, "tick", "(I)I"⟩
abbrev cX7_passenger : ByteArray := prog_1_method_5_code
def yX7_passenger : MethodName := ⟨RX7, "passenger", "(I)I"⟩
abbrev cX7_group : ByteArray := prog_1_method_6_code
def yX7_group : MethodName := ⟨RX7, "group", "(I)I"⟩
abbrev cX7_join : ByteArray := prog_1_method_7_code
def yX7_join : MethodName := ⟨RX7, "join", "(II)I"⟩
abbrev cX7_leave : ByteArray := prog_1_method_8_code
def yX7_leave : MethodName := ⟨RX7, "leave", "(II)I"⟩
abbrev cX7_clockOf : ByteArray := prog_1_method_9_code
def yX7_clockOf : MethodName := ⟨RX7, "clockOf", "(II)I"⟩
abbrev cX7_groupOf : ByteArray := prog_1_method_11_code
def yX7_groupOf : MethodName := ⟨RX7, "groupOf", "(II)I"⟩
abbrev cX7_next : ByteArray := prog_1_method_12_code
def yX7_next : MethodName := ⟨RX7, "next", "(I)I"⟩
abbrev cX7_count : ByteArray := prog_1_method_16_code
def yX7_count : MethodName := ⟨RX7, "count", "(I)I"⟩
abbrev cX7_settle : ByteArray := prog_1_method_22_code
def yX7_settle : MethodName := ⟨RX7, "settle", "(I)I"⟩
abbrev cX7_isLaw : ByteArray := prog_1_method_24_code
def yX7_isLaw : MethodName := ⟨RX7, "isLaw", "(I)Z"⟩
abbrev cX7_isGap : ByteArray := prog_1_method_25_code
def yX7_isGap : MethodName := ⟨RX7, "isGap", "(I)Z"⟩
abbrev cX7_isClock : ByteArray := prog_1_method_26_code
def yX7_isClock : MethodName := ⟨RX7, "isClock", "(IIIII)Z"⟩
abbrev cX7_mayFollow : ByteArray := prog_1_method_27_code
def yX7_mayFollow : MethodName := ⟨RX7, "mayFollow", "(II)Z"⟩
def RX8 : String := "RenewalClocksModel"
def TX8 : u_T := fun k => match k with
  | _ => ("", "", "", false)
def tyX8 : Nat → FieldType := fun k => match k with
  | _ => .int
theorem nmX8 : ∀ a, a < 0 → ∀ b, b < 0 → a ≠ b → (TX8 a).2.1 ≠ (TX8 b).2.1 := by decide +kernel
theorem tyX8_ok : ∀ k, k < 0 → parseFieldDescriptor (TX8 k).2.2.1 = some (tyX8 k) := by decide +kernel
def RJ6 : String := "java/lang/Integer"
def TJ6 : u_T := fun k => match k with
  | _ => ("", "", "", false)
def tyJ6 : Nat → FieldType := fun k => match k with
  | _ => .int
theorem nmJ6 : ∀ a, a < 0 → ∀ b, b < 0 → a ≠ b → (TJ6 a).2.1 ≠ (TJ6 b).2.1 := by decide +kernel
theorem tyJ6_ok : ∀ k, k < 0 → parseFieldDescriptor (TJ6 k).2.2.1 = some (tyJ6 k) := by decide +kernel
abbrev cJ6_bitCount_0f7a4 : ByteArray := prog_11_method_49_code
def yJ6_bitCount_0f7a4 : MethodName := ⟨RJ6, "bitCount", "(I)I"⟩
def RJ9 : String := "java/lang/Math"
def TJ9 : u_T := fun k => match k with
  | _ => ("", "", "", false)
def tyJ9 : Nat → FieldType := fun k => match k with
  | _ => .int
theorem nmJ9 : ∀ a, a < 0 → ∀ b, b < 0 → a ≠ b → (TJ9 a).2.1 ≠ (TJ9 b).2.1 := by decide +kernel
theorem tyJ9_ok : ∀ k, k < 0 → parseFieldDescriptor (TJ9 k).2.2.1 = some (tyJ9 k) := by decide +kernel
abbrev cJ9_max_7cf53 : ByteArray := prog_12_method_65_code
def yJ9_max_7cf53 : MethodName := ⟨RJ9, "max", "(II)I"⟩
def RJ10 : String := "java/lang/System"
def TJ10 : u_T := fun k => match k with
  | _ => ("", "", "", false)
def tyJ10 : Nat → FieldType := fun k => match k with
  | _ => .int
theorem nmJ10 : ∀ a, a < 0 → ∀ b, b < 0 → a ≠ b → (TJ10 a).2.1 ≠ (TJ10 b).2.1 := by decide +kernel
theorem tyJ10_ok : ∀ k, k < 0 → parseFieldDescriptor (TJ10 k).2.2.1 = some (tyJ10 k) := by decide +kernel
def RL : String := "RenewalClocksLaw"
abbrev cL_cell : ByteArray := method_2_code
def yL_cell : MethodName := ⟨RL, "cell", "([II)I"⟩
abbrev cL_low : ByteArray := method_3_code
def yL_low : MethodName := ⟨RL, "low", "(II)I"⟩
abbrev cL_many : ByteArray := method_4_code
def yL_many : MethodName := ⟨RL, "many", "([II)I"⟩
abbrev cL_gap : ByteArray := method_5_code
def yL_gap : MethodName := ⟨RL, "gap", "([III)I"⟩
abbrev cL_begins : ByteArray := method_6_code
def yL_begins : MethodName := ⟨RL, "begins", "([I[II)V"⟩
abbrev cL_bitsOf : ByteArray := method_7_code
def yL_bitsOf : MethodName := ⟨RL, "bitsOf", "(I)I"⟩
abbrev cL_ticks : ByteArray := method_8_code
def yL_ticks : MethodName := ⟨RL, "ticks", "([I[I[I[I)I"⟩
abbrev cL_rest : ByteArray := method_9_code
def yL_rest : MethodName := ⟨RL, "rest", "([II)I"⟩
abbrev cL_comes : ByteArray := method_10_code
def yL_comes : MethodName := ⟨RL, "comes", "(LRenewalClocks;[I[I[II)Z"⟩
abbrev cL_joins : ByteArray := method_11_code
def yL_joins : MethodName := ⟨RL, "joins", "(LRenewalClocks;[I[I[III)Z"⟩
abbrev cL_acts : ByteArray := method_12_code
def yL_acts : MethodName := ⟨RL, "acts", "(LRenewalClocks;[I[I[I[II)Z"⟩
abbrev cL_areClocks : ByteArray := method_13_code
def yL_areClocks : MethodName := ⟨RL, "areClocks", "(LRenewalClocks;[I[I[I)Z"⟩
abbrev cL_areGroups : ByteArray := method_14_code
def yL_areGroups : MethodName := ⟨RL, "areGroups", "(LRenewalClocks;[I[I[I[I)Z"⟩
abbrev cL_isSo : ByteArray := method_15_code
def yL_isSo : MethodName := ⟨RL, "isSo", "(LRenewalClocks;[I[I[I[I)Z"⟩
abbrev cL_law : ByteArray := code
def yL_law : MethodName := ⟨RL, "law", "([I)Z"⟩
theorem dX0_init_0 : decode cX0_init 0 = .ok (.aload_n 0, 1) := by decide +kernel
theorem dX0_init_1 : decode cX0_init 1 = .ok (.invokespecial 3, 3) := by decide +kernel
theorem dX0_init_4 : decode cX0_init 4 = .ok (.aload_n 0, 1) := by decide +kernel
theorem dX0_init_5 : decode cX0_init 5 = .ok (.iconst 4, 1) := by decide +kernel
theorem dX0_init_6 : decode cX0_init 6 = .ok (.newarray .int, 2) := by decide +kernel
theorem dX0_init_8 : decode cX0_init 8 = .ok (.putfield 9, 3) := by decide +kernel
theorem dX0_init_11 : decode cX0_init 11 = .ok (.aload_n 0, 1) := by decide +kernel
theorem dX0_init_12 : decode cX0_init 12 = .ok (.new 15, 3) := by decide +kernel
theorem dX0_init_15 : decode cX0_init 15 = .ok (.dup, 1) := by decide +kernel
theorem dX0_init_16 : decode cX0_init 16 = .ok (.invokespecial 17, 3) := by decide +kernel
theorem dX0_init_19 : decode cX0_init 19 = .ok (.putfield 18, 3) := by decide +kernel
theorem dX0_init_22 : decode cX0_init 22 = .ok (.aload_n 0, 1) := by decide +kernel
theorem dX0_init_23 : decode cX0_init 23 = .ok (.new 15, 3) := by decide +kernel
theorem dX0_init_26 : decode cX0_init 26 = .ok (.dup, 1) := by decide +kernel
theorem dX0_init_27 : decode cX0_init 27 = .ok (.invokespecial 17, 3) := by decide +kernel
theorem dX0_init_30 : decode cX0_init 30 = .ok (.putfield 22, 3) := by decide +kernel
theorem dX0_init_33 : decode cX0_init 33 = .ok (.return_, 1) := by decide +kernel
theorem dX0_set_0 : decode cX0_set 0 = .ok (.aload_n 0, 1) := by decide +kernel
theorem dX0_set_1 : decode cX0_set 1 = .ok (.iload_n 1, 1) := by decide +kernel
theorem dX0_set_2 : decode cX0_set 2 = .ok (.putfield 25, 3) := by decide +kernel
theorem dX0_set_5 : decode cX0_set 5 = .ok (.aload_n 0, 1) := by decide +kernel
theorem dX0_set_6 : decode cX0_set 6 = .ok (.getfield 9, 3) := by decide +kernel
theorem dX0_set_9 : decode cX0_set 9 = .ok (.iconst 0, 1) := by decide +kernel
theorem dX0_set_10 : decode cX0_set 10 = .ok (.iload_n 2, 1) := by decide +kernel
theorem dX0_set_11 : decode cX0_set 11 = .ok (.iastore, 1) := by decide +kernel
theorem dX0_set_12 : decode cX0_set 12 = .ok (.aload_n 0, 1) := by decide +kernel
theorem dX0_set_13 : decode cX0_set 13 = .ok (.getfield 9, 3) := by decide +kernel
theorem dX0_set_16 : decode cX0_set 16 = .ok (.iconst 1, 1) := by decide +kernel
theorem dX0_set_17 : decode cX0_set 17 = .ok (.iload_n 3, 1) := by decide +kernel
theorem dX0_set_18 : decode cX0_set 18 = .ok (.iastore, 1) := by decide +kernel
theorem dX0_set_19 : decode cX0_set 19 = .ok (.aload_n 0, 1) := by decide +kernel
theorem dX0_set_20 : decode cX0_set 20 = .ok (.getfield 9, 3) := by decide +kernel
theorem dX0_set_23 : decode cX0_set 23 = .ok (.iconst 2, 1) := by decide +kernel
theorem dX0_set_24 : decode cX0_set 24 = .ok (.iload 4, 2) := by decide +kernel
theorem dX0_set_26 : decode cX0_set 26 = .ok (.iastore, 1) := by decide +kernel
theorem dX0_set_27 : decode cX0_set 27 = .ok (.aload_n 0, 1) := by decide +kernel
theorem dX0_set_28 : decode cX0_set 28 = .ok (.getfield 9, 3) := by decide +kernel
theorem dX0_set_31 : decode cX0_set 31 = .ok (.iconst 3, 1) := by decide +kernel
theorem dX0_set_32 : decode cX0_set 32 = .ok (.iload 5, 2) := by decide +kernel
theorem dX0_set_34 : decode cX0_set 34 = .ok (.iastore, 1) := by decide +kernel
theorem dX0_set_35 : decode cX0_set 35 = .ok (.aload_n 0, 1) := by decide +kernel
theorem dX0_set_36 : decode cX0_set 36 = .ok (.iconst (-1), 1) := by decide +kernel
theorem dX0_set_37 : decode cX0_set 37 = .ok (.putfield 29, 3) := by decide +kernel
theorem dX0_set_40 : decode cX0_set 40 = .ok (.aload_n 0, 1) := by decide +kernel
theorem dX0_set_41 : decode cX0_set 41 = .ok (.iconst 0, 1) := by decide +kernel
theorem dX0_set_42 : decode cX0_set 42 = .ok (.putfield 32, 3) := by decide +kernel
theorem dX0_set_45 : decode cX0_set 45 = .ok (.aload_n 0, 1) := by decide +kernel
theorem dX0_set_46 : decode cX0_set 46 = .ok (.iconst 0, 1) := by decide +kernel
theorem dX0_set_47 : decode cX0_set 47 = .ok (.putfield 35, 3) := by decide +kernel
theorem dX0_set_50 : decode cX0_set 50 = .ok (.aload_n 0, 1) := by decide +kernel
theorem dX0_set_51 : decode cX0_set 51 = .ok (.iconst 0, 1) := by decide +kernel
theorem dX0_set_52 : decode cX0_set 52 = .ok (.putfield 38, 3) := by decide +kernel
theorem dX0_set_55 : decode cX0_set 55 = .ok (.aload_n 0, 1) := by decide +kernel
theorem dX0_set_56 : decode cX0_set 56 = .ok (.iconst 0, 1) := by decide +kernel
theorem dX0_set_57 : decode cX0_set 57 = .ok (.putfield 41, 3) := by decide +kernel
theorem dX0_set_60 : decode cX0_set 60 = .ok (.aload_n 0, 1) := by decide +kernel
theorem dX0_set_61 : decode cX0_set 61 = .ok (.iconst 0, 1) := by decide +kernel
theorem dX0_set_62 : decode cX0_set 62 = .ok (.putfield 44, 3) := by decide +kernel
theorem dX0_set_65 : decode cX0_set 65 = .ok (.aload_n 0, 1) := by decide +kernel
theorem dX0_set_66 : decode cX0_set 66 = .ok (.getfield 18, 3) := by decide +kernel
theorem dX0_set_69 : decode cX0_set 69 = .ok (.invokevirtual 47, 3) := by decide +kernel
theorem dX0_set_72 : decode cX0_set 72 = .ok (.aload_n 0, 1) := by decide +kernel
theorem dX0_set_73 : decode cX0_set 73 = .ok (.invokevirtual 50, 3) := by decide +kernel
theorem dX0_set_76 : decode cX0_set 76 = .ok (.return_, 1) := by decide +kernel
theorem dX0_fillRound_0 : decode cX0_fillRound 0 = .ok (.aload_n 0, 1) := by decide +kernel
theorem dX0_fillRound_1 : decode cX0_fillRound 1 = .ok (.getfield 22, 3) := by decide +kernel
theorem dX0_fillRound_4 : decode cX0_fillRound 4 = .ok (.invokevirtual 47, 3) := by decide +kernel
theorem dX0_fillRound_7 : decode cX0_fillRound 7 = .ok (.aload_n 0, 1) := by decide +kernel
theorem dX0_fillRound_8 : decode cX0_fillRound 8 = .ok (.getfield 25, 3) := by decide +kernel
theorem dX0_fillRound_11 : decode cX0_fillRound 11 = .ok (.iconst 2, 1) := by decide +kernel
theorem dX0_fillRound_12 : decode cX0_fillRound 12 = .ok (.if_icmp .ne 37, 3) := by decide +kernel
theorem dX0_fillRound_15 : decode cX0_fillRound 15 = .ok (.aload_n 0, 1) := by decide +kernel
theorem dX0_fillRound_16 : decode cX0_fillRound 16 = .ok (.getfield 22, 3) := by decide +kernel
theorem dX0_fillRound_19 : decode cX0_fillRound 19 = .ok (.aload_n 0, 1) := by decide +kernel
theorem dX0_fillRound_20 : decode cX0_fillRound 20 = .ok (.getfield 9, 3) := by decide +kernel
theorem dX0_fillRound_23 : decode cX0_fillRound 23 = .ok (.iconst 0, 1) := by decide +kernel
theorem dX0_fillRound_24 : decode cX0_fillRound 24 = .ok (.iaload, 1) := by decide +kernel
theorem dX0_fillRound_25 : decode cX0_fillRound 25 = .ok (.aload_n 0, 1) := by decide +kernel
theorem dX0_fillRound_26 : decode cX0_fillRound 26 = .ok (.getfield 9, 3) := by decide +kernel
theorem dX0_fillRound_29 : decode cX0_fillRound 29 = .ok (.iconst 1, 1) := by decide +kernel
theorem dX0_fillRound_30 : decode cX0_fillRound 30 = .ok (.iaload, 1) := by decide +kernel
theorem dX0_fillRound_31 : decode cX0_fillRound 31 = .ok (.invokevirtual 53, 3) := by decide +kernel
theorem dX0_fillRound_34 : decode cX0_fillRound 34 = .ok (.aload_n 0, 1) := by decide +kernel
theorem dX0_fillRound_35 : decode cX0_fillRound 35 = .ok (.getfield 22, 3) := by decide +kernel
theorem dX0_fillRound_38 : decode cX0_fillRound 38 = .ok (.aload_n 0, 1) := by decide +kernel
theorem dX0_fillRound_39 : decode cX0_fillRound 39 = .ok (.getfield 9, 3) := by decide +kernel
theorem dX0_fillRound_42 : decode cX0_fillRound 42 = .ok (.iconst 2, 1) := by decide +kernel
theorem dX0_fillRound_43 : decode cX0_fillRound 43 = .ok (.iaload, 1) := by decide +kernel
theorem dX0_fillRound_44 : decode cX0_fillRound 44 = .ok (.iconst 1, 1) := by decide +kernel
theorem dX0_fillRound_45 : decode cX0_fillRound 45 = .ok (.invokevirtual 53, 3) := by decide +kernel
theorem dX0_fillRound_48 : decode cX0_fillRound 48 = .ok (.return_, 1) := by decide +kernel
theorem dX0_fillRound_49 : decode cX0_fillRound 49 = .ok (.iconst 0, 1) := by decide +kernel
theorem dX0_fillRound_50 : decode cX0_fillRound 50 = .ok (.istore_n 1, 1) := by decide +kernel
theorem dX0_fillRound_51 : decode cX0_fillRound 51 = .ok (.iload_n 1, 1) := by decide +kernel
theorem dX0_fillRound_52 : decode cX0_fillRound 52 = .ok (.aload_n 0, 1) := by decide +kernel
theorem dX0_fillRound_53 : decode cX0_fillRound 53 = .ok (.getfield 9, 3) := by decide +kernel
theorem dX0_fillRound_56 : decode cX0_fillRound 56 = .ok (.arraylength, 1) := by decide +kernel
theorem dX0_fillRound_57 : decode cX0_fillRound 57 = .ok (.if_icmp .ge 32, 3) := by decide +kernel
theorem dX0_fillRound_60 : decode cX0_fillRound 60 = .ok (.aload_n 0, 1) := by decide +kernel
theorem dX0_fillRound_61 : decode cX0_fillRound 61 = .ok (.getfield 9, 3) := by decide +kernel
theorem dX0_fillRound_64 : decode cX0_fillRound 64 = .ok (.iload_n 1, 1) := by decide +kernel
theorem dX0_fillRound_65 : decode cX0_fillRound 65 = .ok (.iaload, 1) := by decide +kernel
theorem dX0_fillRound_66 : decode cX0_fillRound 66 = .ok (.ifCond .le 17, 3) := by decide +kernel
theorem dX0_fillRound_69 : decode cX0_fillRound 69 = .ok (.aload_n 0, 1) := by decide +kernel
theorem dX0_fillRound_70 : decode cX0_fillRound 70 = .ok (.getfield 22, 3) := by decide +kernel
theorem dX0_fillRound_73 : decode cX0_fillRound 73 = .ok (.aload_n 0, 1) := by decide +kernel
theorem dX0_fillRound_74 : decode cX0_fillRound 74 = .ok (.getfield 9, 3) := by decide +kernel
theorem dX0_fillRound_77 : decode cX0_fillRound 77 = .ok (.iload_n 1, 1) := by decide +kernel
theorem dX0_fillRound_78 : decode cX0_fillRound 78 = .ok (.iaload, 1) := by decide +kernel
theorem dX0_fillRound_79 : decode cX0_fillRound 79 = .ok (.iconst 1, 1) := by decide +kernel
theorem dX0_fillRound_80 : decode cX0_fillRound 80 = .ok (.invokevirtual 53, 3) := by decide +kernel
theorem dX0_fillRound_83 : decode cX0_fillRound 83 = .ok (.iinc 1 1, 3) := by decide +kernel
theorem dX0_fillRound_86 : decode cX0_fillRound 86 = .ok (.goto (-35), 3) := by decide +kernel
theorem dX0_fillRound_89 : decode cX0_fillRound 89 = .ok (.return_, 1) := by decide +kernel
theorem dX0_copyFrom_0 : decode cX0_copyFrom 0 = .ok (.aload_n 0, 1) := by decide +kernel
theorem dX0_copyFrom_1 : decode cX0_copyFrom 1 = .ok (.aload_n 1, 1) := by decide +kernel
theorem dX0_copyFrom_2 : decode cX0_copyFrom 2 = .ok (.getfield 25, 3) := by decide +kernel
theorem dX0_copyFrom_5 : decode cX0_copyFrom 5 = .ok (.putfield 25, 3) := by decide +kernel
theorem dX0_copyFrom_8 : decode cX0_copyFrom 8 = .ok (.aload_n 1, 1) := by decide +kernel
theorem dX0_copyFrom_9 : decode cX0_copyFrom 9 = .ok (.getfield 9, 3) := by decide +kernel
theorem dX0_copyFrom_12 : decode cX0_copyFrom 12 = .ok (.iconst 0, 1) := by decide +kernel
theorem dX0_copyFrom_13 : decode cX0_copyFrom 13 = .ok (.aload_n 0, 1) := by decide +kernel
theorem dX0_copyFrom_14 : decode cX0_copyFrom 14 = .ok (.getfield 9, 3) := by decide +kernel
theorem dX0_copyFrom_17 : decode cX0_copyFrom 17 = .ok (.iconst 0, 1) := by decide +kernel
theorem dX0_copyFrom_18 : decode cX0_copyFrom 18 = .ok (.iconst 4, 1) := by decide +kernel
theorem dX0_copyFrom_19 : decode cX0_copyFrom 19 = .ok (.invokestatic 57, 3) := by decide +kernel
theorem dX0_copyFrom_22 : decode cX0_copyFrom 22 = .ok (.aload_n 0, 1) := by decide +kernel
theorem dX0_copyFrom_23 : decode cX0_copyFrom 23 = .ok (.aload_n 1, 1) := by decide +kernel
theorem dX0_copyFrom_24 : decode cX0_copyFrom 24 = .ok (.getfield 29, 3) := by decide +kernel
theorem dX0_copyFrom_27 : decode cX0_copyFrom 27 = .ok (.putfield 29, 3) := by decide +kernel
theorem dX0_copyFrom_30 : decode cX0_copyFrom 30 = .ok (.aload_n 0, 1) := by decide +kernel
theorem dX0_copyFrom_31 : decode cX0_copyFrom 31 = .ok (.aload_n 1, 1) := by decide +kernel
theorem dX0_copyFrom_32 : decode cX0_copyFrom 32 = .ok (.getfield 32, 3) := by decide +kernel
theorem dX0_copyFrom_35 : decode cX0_copyFrom 35 = .ok (.putfield 32, 3) := by decide +kernel
theorem dX0_copyFrom_38 : decode cX0_copyFrom 38 = .ok (.aload_n 0, 1) := by decide +kernel
theorem dX0_copyFrom_39 : decode cX0_copyFrom 39 = .ok (.aload_n 1, 1) := by decide +kernel
theorem dX0_copyFrom_40 : decode cX0_copyFrom 40 = .ok (.getfield 35, 3) := by decide +kernel
theorem dX0_copyFrom_43 : decode cX0_copyFrom 43 = .ok (.putfield 35, 3) := by decide +kernel
theorem dX0_copyFrom_46 : decode cX0_copyFrom 46 = .ok (.aload_n 0, 1) := by decide +kernel
theorem dX0_copyFrom_47 : decode cX0_copyFrom 47 = .ok (.aload_n 1, 1) := by decide +kernel
theorem dX0_copyFrom_48 : decode cX0_copyFrom 48 = .ok (.getfield 38, 3) := by decide +kernel
theorem dX0_copyFrom_51 : decode cX0_copyFrom 51 = .ok (.putfield 38, 3) := by decide +kernel
theorem dX0_copyFrom_54 : decode cX0_copyFrom 54 = .ok (.aload_n 0, 1) := by decide +kernel
theorem dX0_copyFrom_55 : decode cX0_copyFrom 55 = .ok (.aload_n 1, 1) := by decide +kernel
theorem dX0_copyFrom_56 : decode cX0_copyFrom 56 = .ok (.getfield 41, 3) := by decide +kernel
theorem dX0_copyFrom_59 : decode cX0_copyFrom 59 = .ok (.putfield 41, 3) := by decide +kernel
theorem dX0_copyFrom_62 : decode cX0_copyFrom 62 = .ok (.aload_n 0, 1) := by decide +kernel
theorem dX0_copyFrom_63 : decode cX0_copyFrom 63 = .ok (.aload_n 1, 1) := by decide +kernel
theorem dX0_copyFrom_64 : decode cX0_copyFrom 64 = .ok (.getfield 44, 3) := by decide +kernel
theorem dX0_copyFrom_67 : decode cX0_copyFrom 67 = .ok (.putfield 44, 3) := by decide +kernel
theorem dX0_copyFrom_70 : decode cX0_copyFrom 70 = .ok (.aload_n 0, 1) := by decide +kernel
theorem dX0_copyFrom_71 : decode cX0_copyFrom 71 = .ok (.getfield 18, 3) := by decide +kernel
theorem dX0_copyFrom_74 : decode cX0_copyFrom 74 = .ok (.aload_n 1, 1) := by decide +kernel
theorem dX0_copyFrom_75 : decode cX0_copyFrom 75 = .ok (.getfield 18, 3) := by decide +kernel
theorem dX0_copyFrom_78 : decode cX0_copyFrom 78 = .ok (.invokevirtual 63, 3) := by decide +kernel
theorem dX0_copyFrom_81 : decode cX0_copyFrom 81 = .ok (.aload_n 0, 1) := by decide +kernel
theorem dX0_copyFrom_82 : decode cX0_copyFrom 82 = .ok (.getfield 22, 3) := by decide +kernel
theorem dX0_copyFrom_85 : decode cX0_copyFrom 85 = .ok (.aload_n 1, 1) := by decide +kernel
theorem dX0_copyFrom_86 : decode cX0_copyFrom 86 = .ok (.getfield 22, 3) := by decide +kernel
theorem dX0_copyFrom_89 : decode cX0_copyFrom 89 = .ok (.invokevirtual 63, 3) := by decide +kernel
theorem dX0_copyFrom_92 : decode cX0_copyFrom 92 = .ok (.return_, 1) := by decide +kernel
theorem dX0_age_0 : decode cX0_age 0 = .ok (.aload_n 0, 1) := by decide +kernel
theorem dX0_age_1 : decode cX0_age 1 = .ok (.getfield 32, 3) := by decide +kernel
theorem dX0_age_4 : decode cX0_age 4 = .ok (.aload_n 0, 1) := by decide +kernel
theorem dX0_age_5 : decode cX0_age 5 = .ok (.getfield 35, 3) := by decide +kernel
theorem dX0_age_8 : decode cX0_age 8 = .ok (.isub, 1) := by decide +kernel
theorem dX0_age_9 : decode cX0_age 9 = .ok (.ireturn, 1) := by decide +kernel
theorem dX0_placeInTurn_0 : decode cX0_placeInTurn 0 = .ok (.aload_n 0, 1) := by decide +kernel
theorem dX0_placeInTurn_1 : decode cX0_placeInTurn 1 = .ok (.getfield 29, 3) := by decide +kernel
theorem dX0_placeInTurn_4 : decode cX0_placeInTurn 4 = .ok (.iconst 1, 1) := by decide +kernel
theorem dX0_placeInTurn_5 : decode cX0_placeInTurn 5 = .ok (.iadd, 1) := by decide +kernel
theorem dX0_placeInTurn_6 : decode cX0_placeInTurn 6 = .ok (.aload_n 0, 1) := by decide +kernel
theorem dX0_placeInTurn_7 : decode cX0_placeInTurn 7 = .ok (.getfield 22, 3) := by decide +kernel
theorem dX0_placeInTurn_10 : decode cX0_placeInTurn 10 = .ok (.getfield 67, 3) := by decide +kernel
theorem dX0_placeInTurn_13 : decode cX0_placeInTurn 13 = .ok (.if_icmp .ge 12, 3) := by decide +kernel
theorem dX0_placeInTurn_16 : decode cX0_placeInTurn 16 = .ok (.aload_n 0, 1) := by decide +kernel
theorem dX0_placeInTurn_17 : decode cX0_placeInTurn 17 = .ok (.getfield 29, 3) := by decide +kernel
theorem dX0_placeInTurn_20 : decode cX0_placeInTurn 20 = .ok (.iconst 1, 1) := by decide +kernel
theorem dX0_placeInTurn_21 : decode cX0_placeInTurn 21 = .ok (.iadd, 1) := by decide +kernel
theorem dX0_placeInTurn_22 : decode cX0_placeInTurn 22 = .ok (.goto 4, 3) := by decide +kernel
theorem dX0_placeInTurn_25 : decode cX0_placeInTurn 25 = .ok (.iconst 0, 1) := by decide +kernel
theorem dX0_placeInTurn_26 : decode cX0_placeInTurn 26 = .ok (.ireturn, 1) := by decide +kernel
theorem dX0_beginAt_0 : decode cX0_beginAt 0 = .ok (.aload_n 0, 1) := by decide +kernel
theorem dX0_beginAt_1 : decode cX0_beginAt 1 = .ok (.iload_n 1, 1) := by decide +kernel
theorem dX0_beginAt_2 : decode cX0_beginAt 2 = .ok (.putfield 29, 3) := by decide +kernel
theorem dX0_beginAt_5 : decode cX0_beginAt 5 = .ok (.aload_n 0, 1) := by decide +kernel
theorem dX0_beginAt_6 : decode cX0_beginAt 6 = .ok (.getfield 25, 3) := by decide +kernel
theorem dX0_beginAt_9 : decode cX0_beginAt 9 = .ok (.iconst 2, 1) := by decide +kernel
theorem dX0_beginAt_10 : decode cX0_beginAt 10 = .ok (.if_icmp .ne 38, 3) := by decide +kernel
theorem dX0_beginAt_13 : decode cX0_beginAt 13 = .ok (.aload_n 0, 1) := by decide +kernel
theorem dX0_beginAt_14 : decode cX0_beginAt 14 = .ok (.aload_n 0, 1) := by decide +kernel
theorem dX0_beginAt_15 : decode cX0_beginAt 15 = .ok (.getfield 29, 3) := by decide +kernel
theorem dX0_beginAt_18 : decode cX0_beginAt 18 = .ok (.aload_n 0, 1) := by decide +kernel
theorem dX0_beginAt_19 : decode cX0_beginAt 19 = .ok (.getfield 9, 3) := by decide +kernel
theorem dX0_beginAt_22 : decode cX0_beginAt 22 = .ok (.iconst 1, 1) := by decide +kernel
theorem dX0_beginAt_23 : decode cX0_beginAt 23 = .ok (.iaload, 1) := by decide +kernel
theorem dX0_beginAt_24 : decode cX0_beginAt 24 = .ok (.if_icmp .ge 12, 3) := by decide +kernel
theorem dX0_beginAt_27 : decode cX0_beginAt 27 = .ok (.aload_n 0, 1) := by decide +kernel
theorem dX0_beginAt_28 : decode cX0_beginAt 28 = .ok (.getfield 9, 3) := by decide +kernel
theorem dX0_beginAt_31 : decode cX0_beginAt 31 = .ok (.iconst 0, 1) := by decide +kernel
theorem dX0_beginAt_32 : decode cX0_beginAt 32 = .ok (.iaload, 1) := by decide +kernel
theorem dX0_beginAt_33 : decode cX0_beginAt 33 = .ok (.goto 9, 3) := by decide +kernel
theorem dX0_beginAt_36 : decode cX0_beginAt 36 = .ok (.aload_n 0, 1) := by decide +kernel
theorem dX0_beginAt_37 : decode cX0_beginAt 37 = .ok (.getfield 9, 3) := by decide +kernel
theorem dX0_beginAt_40 : decode cX0_beginAt 40 = .ok (.iconst 2, 1) := by decide +kernel
theorem dX0_beginAt_41 : decode cX0_beginAt 41 = .ok (.iaload, 1) := by decide +kernel
theorem dX0_beginAt_42 : decode cX0_beginAt 42 = .ok (.putfield 32, 3) := by decide +kernel
theorem dX0_beginAt_45 : decode cX0_beginAt 45 = .ok (.goto 44, 3) := by decide +kernel
theorem dX0_beginAt_48 : decode cX0_beginAt 48 = .ok (.aload_n 0, 1) := by decide +kernel
theorem dX0_beginAt_49 : decode cX0_beginAt 49 = .ok (.aload_n 0, 1) := by decide +kernel
theorem dX0_beginAt_50 : decode cX0_beginAt 50 = .ok (.getfield 29, 3) := by decide +kernel
theorem dX0_beginAt_53 : decode cX0_beginAt 53 = .ok (.ifCond .lt 27, 3) := by decide +kernel
theorem dX0_beginAt_56 : decode cX0_beginAt 56 = .ok (.aload_n 0, 1) := by decide +kernel
theorem dX0_beginAt_57 : decode cX0_beginAt 57 = .ok (.getfield 29, 3) := by decide +kernel
theorem dX0_beginAt_60 : decode cX0_beginAt 60 = .ok (.aload_n 0, 1) := by decide +kernel
theorem dX0_beginAt_61 : decode cX0_beginAt 61 = .ok (.getfield 9, 3) := by decide +kernel
theorem dX0_beginAt_64 : decode cX0_beginAt 64 = .ok (.arraylength, 1) := by decide +kernel
theorem dX0_beginAt_65 : decode cX0_beginAt 65 = .ok (.if_icmp .ge 15, 3) := by decide +kernel
theorem dX0_beginAt_68 : decode cX0_beginAt 68 = .ok (.aload_n 0, 1) := by decide +kernel
theorem dX0_beginAt_69 : decode cX0_beginAt 69 = .ok (.getfield 9, 3) := by decide +kernel
theorem dX0_beginAt_72 : decode cX0_beginAt 72 = .ok (.aload_n 0, 1) := by decide +kernel
theorem dX0_beginAt_73 : decode cX0_beginAt 73 = .ok (.getfield 29, 3) := by decide +kernel
theorem dX0_beginAt_76 : decode cX0_beginAt 76 = .ok (.iaload, 1) := by decide +kernel
theorem dX0_beginAt_77 : decode cX0_beginAt 77 = .ok (.goto 9, 3) := by decide +kernel
theorem dX0_beginAt_80 : decode cX0_beginAt 80 = .ok (.aload_n 0, 1) := by decide +kernel
theorem dX0_beginAt_81 : decode cX0_beginAt 81 = .ok (.getfield 9, 3) := by decide +kernel
theorem dX0_beginAt_84 : decode cX0_beginAt 84 = .ok (.iconst 0, 1) := by decide +kernel
theorem dX0_beginAt_85 : decode cX0_beginAt 85 = .ok (.iaload, 1) := by decide +kernel
theorem dX0_beginAt_86 : decode cX0_beginAt 86 = .ok (.putfield 32, 3) := by decide +kernel
theorem dX0_beginAt_89 : decode cX0_beginAt 89 = .ok (.aload_n 0, 1) := by decide +kernel
theorem dX0_beginAt_90 : decode cX0_beginAt 90 = .ok (.aload_n 0, 1) := by decide +kernel
theorem dX0_beginAt_91 : decode cX0_beginAt 91 = .ok (.getfield 32, 3) := by decide +kernel
theorem dX0_beginAt_94 : decode cX0_beginAt 94 = .ok (.putfield 35, 3) := by decide +kernel
theorem dX0_beginAt_97 : decode cX0_beginAt 97 = .ok (.return_, 1) := by decide +kernel
theorem dX0_passTick_0 : decode cX0_passTick 0 = .ok (.aload_n 0, 1) := by decide +kernel
theorem dX0_passTick_1 : decode cX0_passTick 1 = .ok (.dup, 1) := by decide +kernel
theorem dX0_passTick_2 : decode cX0_passTick 2 = .ok (.getfield 35, 3) := by decide +kernel
theorem dX0_passTick_5 : decode cX0_passTick 5 = .ok (.iconst 1, 1) := by decide +kernel
theorem dX0_passTick_6 : decode cX0_passTick 6 = .ok (.isub, 1) := by decide +kernel
theorem dX0_passTick_7 : decode cX0_passTick 7 = .ok (.putfield 35, 3) := by decide +kernel
theorem dX0_passTick_10 : decode cX0_passTick 10 = .ok (.aload_n 0, 1) := by decide +kernel
theorem dX0_passTick_11 : decode cX0_passTick 11 = .ok (.getfield 35, 3) := by decide +kernel
theorem dX0_passTick_14 : decode cX0_passTick 14 = .ok (.ifCond .le 5, 3) := by decide +kernel
theorem dX0_passTick_17 : decode cX0_passTick 17 = .ok (.iconst 0, 1) := by decide +kernel
theorem dX0_passTick_18 : decode cX0_passTick 18 = .ok (.ireturn, 1) := by decide +kernel
theorem dX0_passTick_19 : decode cX0_passTick 19 = .ok (.aload_n 0, 1) := by decide +kernel
theorem dX0_passTick_20 : decode cX0_passTick 20 = .ok (.getfield 18, 3) := by decide +kernel
theorem dX0_passTick_23 : decode cX0_passTick 23 = .ok (.aload_n 0, 1) := by decide +kernel
theorem dX0_passTick_24 : decode cX0_passTick 24 = .ok (.getfield 32, 3) := by decide +kernel
theorem dX0_passTick_27 : decode cX0_passTick 27 = .ok (.iconst 1, 1) := by decide +kernel
theorem dX0_passTick_28 : decode cX0_passTick 28 = .ok (.invokevirtual 53, 3) := by decide +kernel
theorem dX0_passTick_31 : decode cX0_passTick 31 = .ok (.iconst 1, 1) := by decide +kernel
theorem dX0_passTick_32 : decode cX0_passTick 32 = .ok (.ireturn, 1) := by decide +kernel
theorem dX0_tell_0 : decode cX0_tell 0 = .ok (.iload_n 1, 1) := by decide +kernel
theorem dX0_tell_1 : decode cX0_tell 1 = .ok (.iconst 1, 1) := by decide +kernel
theorem dX0_tell_2 : decode cX0_tell 2 = .ok (.if_icmp .lt 17, 3) := by decide +kernel
theorem dX0_tell_5 : decode cX0_tell 5 = .ok (.iload_n 1, 1) := by decide +kernel
theorem dX0_tell_6 : decode cX0_tell 6 = .ok (.iconst 4, 1) := by decide +kernel
theorem dX0_tell_7 : decode cX0_tell 7 = .ok (.if_icmp .gt 12, 3) := by decide +kernel
theorem dX0_tell_10 : decode cX0_tell 10 = .ok (.aload_n 0, 1) := by decide +kernel
theorem dX0_tell_11 : decode cX0_tell 11 = .ok (.getfield 9, 3) := by decide +kernel
theorem dX0_tell_14 : decode cX0_tell 14 = .ok (.iload_n 1, 1) := by decide +kernel
theorem dX0_tell_15 : decode cX0_tell 15 = .ok (.iconst 1, 1) := by decide +kernel
theorem dX0_tell_16 : decode cX0_tell 16 = .ok (.isub, 1) := by decide +kernel
theorem dX0_tell_17 : decode cX0_tell 17 = .ok (.iaload, 1) := by decide +kernel
theorem dX0_tell_18 : decode cX0_tell 18 = .ok (.ireturn, 1) := by decide +kernel
theorem dX0_tell_19 : decode cX0_tell 19 = .ok (.iload_n 1, 1) := by decide +kernel
theorem dX0_tell_20 : decode cX0_tell 20 = .ok (.tableswitch 137 0 12 #[68, 137, 137, 137, 137, 73, 78, 83, 88, 96, 104, 127, 132], 68) := by decide +kernel
theorem dX0_tell_88 : decode cX0_tell 88 = .ok (.aload_n 0, 1) := by decide +kernel
theorem dX0_tell_89 : decode cX0_tell 89 = .ok (.getfield 25, 3) := by decide +kernel
theorem dX0_tell_92 : decode cX0_tell 92 = .ok (.ireturn, 1) := by decide +kernel
theorem dX0_tell_93 : decode cX0_tell 93 = .ok (.aload_n 0, 1) := by decide +kernel
theorem dX0_tell_94 : decode cX0_tell 94 = .ok (.getfield 32, 3) := by decide +kernel
theorem dX0_tell_97 : decode cX0_tell 97 = .ok (.ireturn, 1) := by decide +kernel
theorem dX0_tell_98 : decode cX0_tell 98 = .ok (.aload_n 0, 1) := by decide +kernel
theorem dX0_tell_99 : decode cX0_tell 99 = .ok (.invokevirtual 70, 3) := by decide +kernel
theorem dX0_tell_102 : decode cX0_tell 102 = .ok (.ireturn, 1) := by decide +kernel
theorem dX0_tell_103 : decode cX0_tell 103 = .ok (.aload_n 0, 1) := by decide +kernel
theorem dX0_tell_104 : decode cX0_tell 104 = .ok (.getfield 35, 3) := by decide +kernel
theorem dX0_tell_107 : decode cX0_tell 107 = .ok (.ireturn, 1) := by decide +kernel
theorem dX0_tell_108 : decode cX0_tell 108 = .ok (.aload_n 0, 1) := by decide +kernel
theorem dX0_tell_109 : decode cX0_tell 109 = .ok (.getfield 18, 3) := by decide +kernel
theorem dX0_tell_112 : decode cX0_tell 112 = .ok (.getfield 67, 3) := by decide +kernel
theorem dX0_tell_115 : decode cX0_tell 115 = .ok (.ireturn, 1) := by decide +kernel
theorem dX0_tell_116 : decode cX0_tell 116 = .ok (.aload_n 0, 1) := by decide +kernel
theorem dX0_tell_117 : decode cX0_tell 117 = .ok (.getfield 18, 3) := by decide +kernel
theorem dX0_tell_120 : decode cX0_tell 120 = .ok (.getfield 74, 3) := by decide +kernel
theorem dX0_tell_123 : decode cX0_tell 123 = .ok (.ireturn, 1) := by decide +kernel
theorem dX0_tell_124 : decode cX0_tell 124 = .ok (.aload_n 0, 1) := by decide +kernel
theorem dX0_tell_125 : decode cX0_tell 125 = .ok (.getfield 18, 3) := by decide +kernel
theorem dX0_tell_128 : decode cX0_tell 128 = .ok (.getfield 67, 3) := by decide +kernel
theorem dX0_tell_131 : decode cX0_tell 131 = .ok (.ifCond .ne 8, 3) := by decide +kernel
theorem dX0_tell_134 : decode cX0_tell 134 = .ok (.ldc 77, 2) := by decide +kernel
theorem dX0_tell_136 : decode cX0_tell 136 = .ok (.goto 10, 3) := by decide +kernel
theorem dX0_tell_139 : decode cX0_tell 139 = .ok (.aload_n 0, 1) := by decide +kernel
theorem dX0_tell_140 : decode cX0_tell 140 = .ok (.getfield 18, 3) := by decide +kernel
theorem dX0_tell_143 : decode cX0_tell 143 = .ok (.getfield 78, 3) := by decide +kernel
theorem dX0_tell_146 : decode cX0_tell 146 = .ok (.ireturn, 1) := by decide +kernel
theorem dX0_tell_147 : decode cX0_tell 147 = .ok (.aload_n 0, 1) := by decide +kernel
theorem dX0_tell_148 : decode cX0_tell 148 = .ok (.getfield 38, 3) := by decide +kernel
theorem dX0_tell_151 : decode cX0_tell 151 = .ok (.ireturn, 1) := by decide +kernel
theorem dX0_tell_152 : decode cX0_tell 152 = .ok (.aload_n 0, 1) := by decide +kernel
theorem dX0_tell_153 : decode cX0_tell 153 = .ok (.getfield 41, 3) := by decide +kernel
theorem dX0_tell_156 : decode cX0_tell 156 = .ok (.ireturn, 1) := by decide +kernel
theorem dX0_tell_157 : decode cX0_tell 157 = .ok (.aload_n 0, 1) := by decide +kernel
theorem dX0_tell_158 : decode cX0_tell 158 = .ok (.getfield 44, 3) := by decide +kernel
theorem dX0_tell_161 : decode cX0_tell 161 = .ok (.ireturn, 1) := by decide +kernel
theorem dX1_init_0 : decode cX1_init 0 = .ok (.aload_n 0, 1) := by decide +kernel
theorem dX1_init_1 : decode cX1_init 1 = .ok (.invokespecial 1, 3) := by decide +kernel
theorem dX1_init_4 : decode cX1_init 4 = .ok (.return_, 1) := by decide +kernel
theorem dX1_empty_0 : decode cX1_empty 0 = .ok (.aload_n 0, 1) := by decide +kernel
theorem dX1_empty_1 : decode cX1_empty 1 = .ok (.iconst 0, 1) := by decide +kernel
theorem dX1_empty_2 : decode cX1_empty 2 = .ok (.putfield 7, 3) := by decide +kernel
theorem dX1_empty_5 : decode cX1_empty 5 = .ok (.aload_n 0, 1) := by decide +kernel
theorem dX1_empty_6 : decode cX1_empty 6 = .ok (.iconst 0, 1) := by decide +kernel
theorem dX1_empty_7 : decode cX1_empty 7 = .ok (.putfield 13, 3) := by decide +kernel
theorem dX1_empty_10 : decode cX1_empty 10 = .ok (.aload_n 0, 1) := by decide +kernel
theorem dX1_empty_11 : decode cX1_empty 11 = .ok (.iconst 0, 1) := by decide +kernel
theorem dX1_empty_12 : decode cX1_empty 12 = .ok (.putfield 16, 3) := by decide +kernel
theorem dX1_empty_15 : decode cX1_empty 15 = .ok (.aload_n 0, 1) := by decide +kernel
theorem dX1_empty_16 : decode cX1_empty 16 = .ok (.iconst 0, 1) := by decide +kernel
theorem dX1_empty_17 : decode cX1_empty 17 = .ok (.putfield 19, 3) := by decide +kernel
theorem dX1_empty_20 : decode cX1_empty 20 = .ok (.aload_n 0, 1) := by decide +kernel
theorem dX1_empty_21 : decode cX1_empty 21 = .ok (.iconst 0, 1) := by decide +kernel
theorem dX1_empty_22 : decode cX1_empty 22 = .ok (.putfield 22, 3) := by decide +kernel
theorem dX1_empty_25 : decode cX1_empty 25 = .ok (.return_, 1) := by decide +kernel
theorem dX1_add_0 : decode cX1_add 0 = .ok (.aload_n 0, 1) := by decide +kernel
theorem dX1_add_1 : decode cX1_add 1 = .ok (.dup, 1) := by decide +kernel
theorem dX1_add_2 : decode cX1_add 2 = .ok (.getfield 7, 3) := by decide +kernel
theorem dX1_add_5 : decode cX1_add 5 = .ok (.iload_n 2, 1) := by decide +kernel
theorem dX1_add_6 : decode cX1_add 6 = .ok (.iadd, 1) := by decide +kernel
theorem dX1_add_7 : decode cX1_add 7 = .ok (.putfield 7, 3) := by decide +kernel
theorem dX1_add_10 : decode cX1_add 10 = .ok (.aload_n 0, 1) := by decide +kernel
theorem dX1_add_11 : decode cX1_add 11 = .ok (.dup, 1) := by decide +kernel
theorem dX1_add_12 : decode cX1_add 12 = .ok (.getfield 13, 3) := by decide +kernel
theorem dX1_add_15 : decode cX1_add 15 = .ok (.iload_n 1, 1) := by decide +kernel
theorem dX1_add_16 : decode cX1_add 16 = .ok (.iload_n 2, 1) := by decide +kernel
theorem dX1_add_17 : decode cX1_add 17 = .ok (.imul, 1) := by decide +kernel
theorem dX1_add_18 : decode cX1_add 18 = .ok (.iadd, 1) := by decide +kernel
theorem dX1_add_19 : decode cX1_add 19 = .ok (.putfield 13, 3) := by decide +kernel
theorem dX1_add_22 : decode cX1_add 22 = .ok (.aload_n 0, 1) := by decide +kernel
theorem dX1_add_23 : decode cX1_add 23 = .ok (.dup, 1) := by decide +kernel
theorem dX1_add_24 : decode cX1_add 24 = .ok (.getfield 16, 3) := by decide +kernel
theorem dX1_add_27 : decode cX1_add 27 = .ok (.iload_n 1, 1) := by decide +kernel
theorem dX1_add_28 : decode cX1_add 28 = .ok (.iload_n 1, 1) := by decide +kernel
theorem dX1_add_29 : decode cX1_add 29 = .ok (.imul, 1) := by decide +kernel
theorem dX1_add_30 : decode cX1_add 30 = .ok (.iload_n 2, 1) := by decide +kernel
theorem dX1_add_31 : decode cX1_add 31 = .ok (.imul, 1) := by decide +kernel
theorem dX1_add_32 : decode cX1_add 32 = .ok (.iadd, 1) := by decide +kernel
theorem dX1_add_33 : decode cX1_add 33 = .ok (.putfield 16, 3) := by decide +kernel
theorem dX1_add_36 : decode cX1_add 36 = .ok (.aload_n 0, 1) := by decide +kernel
theorem dX1_add_37 : decode cX1_add 37 = .ok (.dup, 1) := by decide +kernel
theorem dX1_add_38 : decode cX1_add 38 = .ok (.getfield 19, 3) := by decide +kernel
theorem dX1_add_41 : decode cX1_add 41 = .ok (.iload_n 1, 1) := by decide +kernel
theorem dX1_add_42 : decode cX1_add 42 = .ok (.iload_n 1, 1) := by decide +kernel
theorem dX1_add_43 : decode cX1_add 43 = .ok (.iconst 1, 1) := by decide +kernel
theorem dX1_add_44 : decode cX1_add 44 = .ok (.iadd, 1) := by decide +kernel
theorem dX1_add_45 : decode cX1_add 45 = .ok (.imul, 1) := by decide +kernel
theorem dX1_add_46 : decode cX1_add 46 = .ok (.iconst 2, 1) := by decide +kernel
theorem dX1_add_47 : decode cX1_add 47 = .ok (.idiv, 1) := by decide +kernel
theorem dX1_add_48 : decode cX1_add 48 = .ok (.iload_n 2, 1) := by decide +kernel
theorem dX1_add_49 : decode cX1_add 49 = .ok (.imul, 1) := by decide +kernel
theorem dX1_add_50 : decode cX1_add 50 = .ok (.iadd, 1) := by decide +kernel
theorem dX1_add_51 : decode cX1_add 51 = .ok (.putfield 19, 3) := by decide +kernel
theorem dX1_add_54 : decode cX1_add 54 = .ok (.iload_n 1, 1) := by decide +kernel
theorem dX1_add_55 : decode cX1_add 55 = .ok (.aload_n 0, 1) := by decide +kernel
theorem dX1_add_56 : decode cX1_add 56 = .ok (.getfield 22, 3) := by decide +kernel
theorem dX1_add_59 : decode cX1_add 59 = .ok (.if_icmp .le 8, 3) := by decide +kernel
theorem dX1_add_62 : decode cX1_add 62 = .ok (.aload_n 0, 1) := by decide +kernel
theorem dX1_add_63 : decode cX1_add 63 = .ok (.iload_n 1, 1) := by decide +kernel
theorem dX1_add_64 : decode cX1_add 64 = .ok (.putfield 22, 3) := by decide +kernel
theorem dX1_add_67 : decode cX1_add 67 = .ok (.return_, 1) := by decide +kernel
theorem dX1_copyFrom_0 : decode cX1_copyFrom 0 = .ok (.aload_n 0, 1) := by decide +kernel
theorem dX1_copyFrom_1 : decode cX1_copyFrom 1 = .ok (.aload_n 1, 1) := by decide +kernel
theorem dX1_copyFrom_2 : decode cX1_copyFrom 2 = .ok (.getfield 7, 3) := by decide +kernel
theorem dX1_copyFrom_5 : decode cX1_copyFrom 5 = .ok (.putfield 7, 3) := by decide +kernel
theorem dX1_copyFrom_8 : decode cX1_copyFrom 8 = .ok (.aload_n 0, 1) := by decide +kernel
theorem dX1_copyFrom_9 : decode cX1_copyFrom 9 = .ok (.aload_n 1, 1) := by decide +kernel
theorem dX1_copyFrom_10 : decode cX1_copyFrom 10 = .ok (.getfield 13, 3) := by decide +kernel
theorem dX1_copyFrom_13 : decode cX1_copyFrom 13 = .ok (.putfield 13, 3) := by decide +kernel
theorem dX1_copyFrom_16 : decode cX1_copyFrom 16 = .ok (.aload_n 0, 1) := by decide +kernel
theorem dX1_copyFrom_17 : decode cX1_copyFrom 17 = .ok (.aload_n 1, 1) := by decide +kernel
theorem dX1_copyFrom_18 : decode cX1_copyFrom 18 = .ok (.getfield 16, 3) := by decide +kernel
theorem dX1_copyFrom_21 : decode cX1_copyFrom 21 = .ok (.putfield 16, 3) := by decide +kernel
theorem dX1_copyFrom_24 : decode cX1_copyFrom 24 = .ok (.aload_n 0, 1) := by decide +kernel
theorem dX1_copyFrom_25 : decode cX1_copyFrom 25 = .ok (.aload_n 1, 1) := by decide +kernel
theorem dX1_copyFrom_26 : decode cX1_copyFrom 26 = .ok (.getfield 19, 3) := by decide +kernel
theorem dX1_copyFrom_29 : decode cX1_copyFrom 29 = .ok (.putfield 19, 3) := by decide +kernel
theorem dX1_copyFrom_32 : decode cX1_copyFrom 32 = .ok (.aload_n 0, 1) := by decide +kernel
theorem dX1_copyFrom_33 : decode cX1_copyFrom 33 = .ok (.aload_n 1, 1) := by decide +kernel
theorem dX1_copyFrom_34 : decode cX1_copyFrom 34 = .ok (.getfield 22, 3) := by decide +kernel
theorem dX1_copyFrom_37 : decode cX1_copyFrom 37 = .ok (.putfield 22, 3) := by decide +kernel
theorem dX1_copyFrom_40 : decode cX1_copyFrom 40 = .ok (.return_, 1) := by decide +kernel
theorem dX2_init_0 : decode cX2_init 0 = .ok (.aload_n 0, 1) := by decide +kernel
theorem dX2_init_1 : decode cX2_init 1 = .ok (.invokespecial 1, 3) := by decide +kernel
theorem dX2_init_4 : decode cX2_init 4 = .ok (.return_, 1) := by decide +kernel
theorem dX2_set_0 : decode cX2_set 0 = .ok (.aload_n 0, 1) := by decide +kernel
theorem dX2_set_1 : decode cX2_set 1 = .ok (.iload_n 1, 1) := by decide +kernel
theorem dX2_set_2 : decode cX2_set 2 = .ok (.putfield 7, 3) := by decide +kernel
theorem dX2_set_5 : decode cX2_set 5 = .ok (.aload_n 0, 1) := by decide +kernel
theorem dX2_set_6 : decode cX2_set 6 = .ok (.iconst 0, 1) := by decide +kernel
theorem dX2_set_7 : decode cX2_set 7 = .ok (.putfield 13, 3) := by decide +kernel
theorem dX2_set_10 : decode cX2_set 10 = .ok (.aload_n 0, 1) := by decide +kernel
theorem dX2_set_11 : decode cX2_set 11 = .ok (.iconst 0, 1) := by decide +kernel
theorem dX2_set_12 : decode cX2_set 12 = .ok (.putfield 16, 3) := by decide +kernel
theorem dX2_set_15 : decode cX2_set 15 = .ok (.aload_n 0, 1) := by decide +kernel
theorem dX2_set_16 : decode cX2_set 16 = .ok (.iconst 0, 1) := by decide +kernel
theorem dX2_set_17 : decode cX2_set 17 = .ok (.putfield 19, 3) := by decide +kernel
theorem dX2_set_20 : decode cX2_set 20 = .ok (.return_, 1) := by decide +kernel
theorem dX2_copyFrom_0 : decode cX2_copyFrom 0 = .ok (.aload_n 0, 1) := by decide +kernel
theorem dX2_copyFrom_1 : decode cX2_copyFrom 1 = .ok (.aload_n 1, 1) := by decide +kernel
theorem dX2_copyFrom_2 : decode cX2_copyFrom 2 = .ok (.getfield 7, 3) := by decide +kernel
theorem dX2_copyFrom_5 : decode cX2_copyFrom 5 = .ok (.putfield 7, 3) := by decide +kernel
theorem dX2_copyFrom_8 : decode cX2_copyFrom 8 = .ok (.aload_n 0, 1) := by decide +kernel
theorem dX2_copyFrom_9 : decode cX2_copyFrom 9 = .ok (.aload_n 1, 1) := by decide +kernel
theorem dX2_copyFrom_10 : decode cX2_copyFrom 10 = .ok (.getfield 13, 3) := by decide +kernel
theorem dX2_copyFrom_13 : decode cX2_copyFrom 13 = .ok (.putfield 13, 3) := by decide +kernel
theorem dX2_copyFrom_16 : decode cX2_copyFrom 16 = .ok (.aload_n 0, 1) := by decide +kernel
theorem dX2_copyFrom_17 : decode cX2_copyFrom 17 = .ok (.aload_n 1, 1) := by decide +kernel
theorem dX2_copyFrom_18 : decode cX2_copyFrom 18 = .ok (.getfield 16, 3) := by decide +kernel
theorem dX2_copyFrom_21 : decode cX2_copyFrom 21 = .ok (.putfield 16, 3) := by decide +kernel
theorem dX2_copyFrom_24 : decode cX2_copyFrom 24 = .ok (.aload_n 0, 1) := by decide +kernel
theorem dX2_copyFrom_25 : decode cX2_copyFrom 25 = .ok (.aload_n 1, 1) := by decide +kernel
theorem dX2_copyFrom_26 : decode cX2_copyFrom 26 = .ok (.getfield 19, 3) := by decide +kernel
theorem dX2_copyFrom_29 : decode cX2_copyFrom 29 = .ok (.putfield 19, 3) := by decide +kernel
theorem dX2_copyFrom_32 : decode cX2_copyFrom 32 = .ok (.return_, 1) := by decide +kernel
theorem dX2_has_0 : decode cX2_has 0 = .ok (.aload_n 0, 1) := by decide +kernel
theorem dX2_has_1 : decode cX2_has 1 = .ok (.getfield 13, 3) := by decide +kernel
theorem dX2_has_4 : decode cX2_has 4 = .ok (.iconst 1, 1) := by decide +kernel
theorem dX2_has_5 : decode cX2_has 5 = .ok (.iload_n 1, 1) := by decide +kernel
theorem dX2_has_6 : decode cX2_has 6 = .ok (.ishl, 1) := by decide +kernel
theorem dX2_has_7 : decode cX2_has 7 = .ok (.iand, 1) := by decide +kernel
theorem dX2_has_8 : decode cX2_has 8 = .ok (.ifCond .eq 7, 3) := by decide +kernel
theorem dX2_has_11 : decode cX2_has 11 = .ok (.iconst 1, 1) := by decide +kernel
theorem dX2_has_12 : decode cX2_has 12 = .ok (.goto 4, 3) := by decide +kernel
theorem dX2_has_15 : decode cX2_has 15 = .ok (.iconst 0, 1) := by decide +kernel
theorem dX2_has_16 : decode cX2_has 16 = .ok (.ireturn, 1) := by decide +kernel
theorem dX2_size_0 : decode cX2_size 0 = .ok (.aload_n 0, 1) := by decide +kernel
theorem dX2_size_1 : decode cX2_size 1 = .ok (.getfield 13, 3) := by decide +kernel
theorem dX2_size_4 : decode cX2_size 4 = .ok (.invokestatic 22, 3) := by decide +kernel
theorem dX2_size_7 : decode cX2_size 7 = .ok (.ireturn, 1) := by decide +kernel
theorem dX2_passTick_0 : decode cX2_passTick 0 = .ok (.aload_n 0, 1) := by decide +kernel
theorem dX2_passTick_1 : decode cX2_passTick 1 = .ok (.getfield 13, 3) := by decide +kernel
theorem dX2_passTick_4 : decode cX2_passTick 4 = .ok (.iload_n 1, 1) := by decide +kernel
theorem dX2_passTick_5 : decode cX2_passTick 5 = .ok (.iand, 1) := by decide +kernel
theorem dX2_passTick_6 : decode cX2_passTick 6 = .ok (.invokestatic 22, 3) := by decide +kernel
theorem dX2_passTick_9 : decode cX2_passTick 9 = .ok (.istore_n 2, 1) := by decide +kernel
theorem dX2_passTick_10 : decode cX2_passTick 10 = .ok (.aload_n 0, 1) := by decide +kernel
theorem dX2_passTick_11 : decode cX2_passTick 11 = .ok (.dup, 1) := by decide +kernel
theorem dX2_passTick_12 : decode cX2_passTick 12 = .ok (.getfield 16, 3) := by decide +kernel
theorem dX2_passTick_15 : decode cX2_passTick 15 = .ok (.iload_n 2, 1) := by decide +kernel
theorem dX2_passTick_16 : decode cX2_passTick 16 = .ok (.iadd, 1) := by decide +kernel
theorem dX2_passTick_17 : decode cX2_passTick 17 = .ok (.putfield 16, 3) := by decide +kernel
theorem dX2_passTick_20 : decode cX2_passTick 20 = .ok (.iload_n 2, 1) := by decide +kernel
theorem dX2_passTick_21 : decode cX2_passTick 21 = .ok (.iconst 2, 1) := by decide +kernel
theorem dX2_passTick_22 : decode cX2_passTick 22 = .ok (.if_icmp .lt 13, 3) := by decide +kernel
theorem dX2_passTick_25 : decode cX2_passTick 25 = .ok (.aload_n 0, 1) := by decide +kernel
theorem dX2_passTick_26 : decode cX2_passTick 26 = .ok (.dup, 1) := by decide +kernel
theorem dX2_passTick_27 : decode cX2_passTick 27 = .ok (.getfield 19, 3) := by decide +kernel
theorem dX2_passTick_30 : decode cX2_passTick 30 = .ok (.iconst 1, 1) := by decide +kernel
theorem dX2_passTick_31 : decode cX2_passTick 31 = .ok (.iadd, 1) := by decide +kernel
theorem dX2_passTick_32 : decode cX2_passTick 32 = .ok (.putfield 19, 3) := by decide +kernel
theorem dX2_passTick_35 : decode cX2_passTick 35 = .ok (.return_, 1) := by decide +kernel
theorem dX3_init_0 : decode cX3_init 0 = .ok (.aload_n 0, 1) := by decide +kernel
theorem dX3_init_1 : decode cX3_init 1 = .ok (.invokespecial 3, 3) := by decide +kernel
theorem dX3_init_4 : decode cX3_init 4 = .ok (.aload_n 0, 1) := by decide +kernel
theorem dX3_init_5 : decode cX3_init 5 = .ok (.bipush 6, 2) := by decide +kernel
theorem dX3_init_7 : decode cX3_init 7 = .ok (.anewarray 9, 3) := by decide +kernel
theorem dX3_init_10 : decode cX3_init 10 = .ok (.putfield 11, 3) := by decide +kernel
theorem dX3_init_13 : decode cX3_init 13 = .ok (.aload_n 0, 1) := by decide +kernel
theorem dX3_init_14 : decode cX3_init 14 = .ok (.iconst 4, 1) := by decide +kernel
theorem dX3_init_15 : decode cX3_init 15 = .ok (.anewarray 17, 3) := by decide +kernel
theorem dX3_init_18 : decode cX3_init 18 = .ok (.putfield 19, 3) := by decide +kernel
theorem dX3_init_21 : decode cX3_init 21 = .ok (.aload_n 0, 1) := by decide +kernel
theorem dX3_init_22 : decode cX3_init 22 = .ok (.iconst 1, 1) := by decide +kernel
theorem dX3_init_23 : decode cX3_init 23 = .ok (.putfield 23, 3) := by decide +kernel
theorem dX3_init_26 : decode cX3_init 26 = .ok (.iconst 0, 1) := by decide +kernel
theorem dX3_init_27 : decode cX3_init 27 = .ok (.istore_n 1, 1) := by decide +kernel
theorem dX3_init_28 : decode cX3_init 28 = .ok (.iload_n 1, 1) := by decide +kernel
theorem dX3_init_29 : decode cX3_init 29 = .ok (.aload_n 0, 1) := by decide +kernel
theorem dX3_init_30 : decode cX3_init 30 = .ok (.getfield 11, 3) := by decide +kernel
theorem dX3_init_33 : decode cX3_init 33 = .ok (.arraylength, 1) := by decide +kernel
theorem dX3_init_34 : decode cX3_init 34 = .ok (.if_icmp .ge 22, 3) := by decide +kernel
theorem dX3_init_37 : decode cX3_init 37 = .ok (.aload_n 0, 1) := by decide +kernel
theorem dX3_init_38 : decode cX3_init 38 = .ok (.getfield 11, 3) := by decide +kernel
theorem dX3_init_41 : decode cX3_init 41 = .ok (.iload_n 1, 1) := by decide +kernel
theorem dX3_init_42 : decode cX3_init 42 = .ok (.new 9, 3) := by decide +kernel
theorem dX3_init_45 : decode cX3_init 45 = .ok (.dup, 1) := by decide +kernel
theorem dX3_init_46 : decode cX3_init 46 = .ok (.invokespecial 27, 3) := by decide +kernel
theorem dX3_init_49 : decode cX3_init 49 = .ok (.aastore, 1) := by decide +kernel
theorem dX3_init_50 : decode cX3_init 50 = .ok (.iinc 1 1, 3) := by decide +kernel
theorem dX3_init_53 : decode cX3_init 53 = .ok (.goto (-25), 3) := by decide +kernel
theorem dX3_init_56 : decode cX3_init 56 = .ok (.iconst 0, 1) := by decide +kernel
theorem dX3_init_57 : decode cX3_init 57 = .ok (.istore_n 1, 1) := by decide +kernel
theorem dX3_init_58 : decode cX3_init 58 = .ok (.iload_n 1, 1) := by decide +kernel
theorem dX3_init_59 : decode cX3_init 59 = .ok (.aload_n 0, 1) := by decide +kernel
theorem dX3_init_60 : decode cX3_init 60 = .ok (.getfield 19, 3) := by decide +kernel
theorem dX3_init_63 : decode cX3_init 63 = .ok (.arraylength, 1) := by decide +kernel
theorem dX3_init_64 : decode cX3_init 64 = .ok (.if_icmp .ge 22, 3) := by decide +kernel
theorem dX3_init_67 : decode cX3_init 67 = .ok (.aload_n 0, 1) := by decide +kernel
theorem dX3_init_68 : decode cX3_init 68 = .ok (.getfield 19, 3) := by decide +kernel
theorem dX3_init_71 : decode cX3_init 71 = .ok (.iload_n 1, 1) := by decide +kernel
theorem dX3_init_72 : decode cX3_init 72 = .ok (.new 17, 3) := by decide +kernel
theorem dX3_init_75 : decode cX3_init 75 = .ok (.dup, 1) := by decide +kernel
theorem dX3_init_76 : decode cX3_init 76 = .ok (.invokespecial 28, 3) := by decide +kernel
theorem dX3_init_79 : decode cX3_init 79 = .ok (.aastore, 1) := by decide +kernel
theorem dX3_init_80 : decode cX3_init 80 = .ok (.iinc 1 1, 3) := by decide +kernel
theorem dX3_init_83 : decode cX3_init 83 = .ok (.goto (-25), 3) := by decide +kernel
theorem dX3_init_86 : decode cX3_init 86 = .ok (.return_, 1) := by decide +kernel
theorem dX3_copyFrom_0 : decode cX3_copyFrom 0 = .ok (.aload_n 0, 1) := by decide +kernel
theorem dX3_copyFrom_1 : decode cX3_copyFrom 1 = .ok (.aload_n 1, 1) := by decide +kernel
theorem dX3_copyFrom_2 : decode cX3_copyFrom 2 = .ok (.getfield 29, 3) := by decide +kernel
theorem dX3_copyFrom_5 : decode cX3_copyFrom 5 = .ok (.putfield 29, 3) := by decide +kernel
theorem dX3_copyFrom_8 : decode cX3_copyFrom 8 = .ok (.iconst 0, 1) := by decide +kernel
theorem dX3_copyFrom_9 : decode cX3_copyFrom 9 = .ok (.istore_n 2, 1) := by decide +kernel
theorem dX3_copyFrom_10 : decode cX3_copyFrom 10 = .ok (.iload_n 2, 1) := by decide +kernel
theorem dX3_copyFrom_11 : decode cX3_copyFrom 11 = .ok (.aload_n 0, 1) := by decide +kernel
theorem dX3_copyFrom_12 : decode cX3_copyFrom 12 = .ok (.getfield 29, 3) := by decide +kernel
theorem dX3_copyFrom_15 : decode cX3_copyFrom 15 = .ok (.if_icmp .ge 30, 3) := by decide +kernel
theorem dX3_copyFrom_18 : decode cX3_copyFrom 18 = .ok (.iload_n 2, 1) := by decide +kernel
theorem dX3_copyFrom_19 : decode cX3_copyFrom 19 = .ok (.bipush 6, 2) := by decide +kernel
theorem dX3_copyFrom_21 : decode cX3_copyFrom 21 = .ok (.if_icmp .ge 24, 3) := by decide +kernel
theorem dX3_copyFrom_24 : decode cX3_copyFrom 24 = .ok (.aload_n 0, 1) := by decide +kernel
theorem dX3_copyFrom_25 : decode cX3_copyFrom 25 = .ok (.getfield 11, 3) := by decide +kernel
theorem dX3_copyFrom_28 : decode cX3_copyFrom 28 = .ok (.iload_n 2, 1) := by decide +kernel
theorem dX3_copyFrom_29 : decode cX3_copyFrom 29 = .ok (.aaload, 1) := by decide +kernel
theorem dX3_copyFrom_30 : decode cX3_copyFrom 30 = .ok (.aload_n 1, 1) := by decide +kernel
theorem dX3_copyFrom_31 : decode cX3_copyFrom 31 = .ok (.getfield 11, 3) := by decide +kernel
theorem dX3_copyFrom_34 : decode cX3_copyFrom 34 = .ok (.iload_n 2, 1) := by decide +kernel
theorem dX3_copyFrom_35 : decode cX3_copyFrom 35 = .ok (.aaload, 1) := by decide +kernel
theorem dX3_copyFrom_36 : decode cX3_copyFrom 36 = .ok (.invokevirtual 32, 3) := by decide +kernel
theorem dX3_copyFrom_39 : decode cX3_copyFrom 39 = .ok (.iinc 2 1, 3) := by decide +kernel
theorem dX3_copyFrom_42 : decode cX3_copyFrom 42 = .ok (.goto (-32), 3) := by decide +kernel
theorem dX3_copyFrom_45 : decode cX3_copyFrom 45 = .ok (.aload_n 0, 1) := by decide +kernel
theorem dX3_copyFrom_46 : decode cX3_copyFrom 46 = .ok (.aload_n 1, 1) := by decide +kernel
theorem dX3_copyFrom_47 : decode cX3_copyFrom 47 = .ok (.getfield 36, 3) := by decide +kernel
theorem dX3_copyFrom_50 : decode cX3_copyFrom 50 = .ok (.putfield 36, 3) := by decide +kernel
theorem dX3_copyFrom_53 : decode cX3_copyFrom 53 = .ok (.iconst 0, 1) := by decide +kernel
theorem dX3_copyFrom_54 : decode cX3_copyFrom 54 = .ok (.istore_n 2, 1) := by decide +kernel
theorem dX3_copyFrom_55 : decode cX3_copyFrom 55 = .ok (.iload_n 2, 1) := by decide +kernel
theorem dX3_copyFrom_56 : decode cX3_copyFrom 56 = .ok (.aload_n 0, 1) := by decide +kernel
theorem dX3_copyFrom_57 : decode cX3_copyFrom 57 = .ok (.getfield 36, 3) := by decide +kernel
theorem dX3_copyFrom_60 : decode cX3_copyFrom 60 = .ok (.if_icmp .ge 29, 3) := by decide +kernel
theorem dX3_copyFrom_63 : decode cX3_copyFrom 63 = .ok (.iload_n 2, 1) := by decide +kernel
theorem dX3_copyFrom_64 : decode cX3_copyFrom 64 = .ok (.iconst 4, 1) := by decide +kernel
theorem dX3_copyFrom_65 : decode cX3_copyFrom 65 = .ok (.if_icmp .ge 24, 3) := by decide +kernel
theorem dX3_copyFrom_68 : decode cX3_copyFrom 68 = .ok (.aload_n 0, 1) := by decide +kernel
theorem dX3_copyFrom_69 : decode cX3_copyFrom 69 = .ok (.getfield 19, 3) := by decide +kernel
theorem dX3_copyFrom_72 : decode cX3_copyFrom 72 = .ok (.iload_n 2, 1) := by decide +kernel
theorem dX3_copyFrom_73 : decode cX3_copyFrom 73 = .ok (.aaload, 1) := by decide +kernel
theorem dX3_copyFrom_74 : decode cX3_copyFrom 74 = .ok (.aload_n 1, 1) := by decide +kernel
theorem dX3_copyFrom_75 : decode cX3_copyFrom 75 = .ok (.getfield 19, 3) := by decide +kernel
theorem dX3_copyFrom_78 : decode cX3_copyFrom 78 = .ok (.iload_n 2, 1) := by decide +kernel
theorem dX3_copyFrom_79 : decode cX3_copyFrom 79 = .ok (.aaload, 1) := by decide +kernel
theorem dX3_copyFrom_80 : decode cX3_copyFrom 80 = .ok (.invokevirtual 39, 3) := by decide +kernel
theorem dX3_copyFrom_83 : decode cX3_copyFrom 83 = .ok (.iinc 2 1, 3) := by decide +kernel
theorem dX3_copyFrom_86 : decode cX3_copyFrom 86 = .ok (.goto (-31), 3) := by decide +kernel
theorem dX3_copyFrom_89 : decode cX3_copyFrom 89 = .ok (.aload_n 0, 1) := by decide +kernel
theorem dX3_copyFrom_90 : decode cX3_copyFrom 90 = .ok (.aload_n 1, 1) := by decide +kernel
theorem dX3_copyFrom_91 : decode cX3_copyFrom 91 = .ok (.getfield 42, 3) := by decide +kernel
theorem dX3_copyFrom_94 : decode cX3_copyFrom 94 = .ok (.putfield 42, 3) := by decide +kernel
theorem dX3_copyFrom_97 : decode cX3_copyFrom 97 = .ok (.aload_n 0, 1) := by decide +kernel
theorem dX3_copyFrom_98 : decode cX3_copyFrom 98 = .ok (.aload_n 1, 1) := by decide +kernel
theorem dX3_copyFrom_99 : decode cX3_copyFrom 99 = .ok (.getfield 23, 3) := by decide +kernel
theorem dX3_copyFrom_102 : decode cX3_copyFrom 102 = .ok (.putfield 23, 3) := by decide +kernel
theorem dX3_copyFrom_105 : decode cX3_copyFrom 105 = .ok (.return_, 1) := by decide +kernel
theorem dX3_clockAt_0 : decode cX3_clockAt 0 = .ok (.iload_n 1, 1) := by decide +kernel
theorem dX3_clockAt_1 : decode cX3_clockAt 1 = .ok (.ifCond .lt 20, 3) := by decide +kernel
theorem dX3_clockAt_4 : decode cX3_clockAt 4 = .ok (.iload_n 1, 1) := by decide +kernel
theorem dX3_clockAt_5 : decode cX3_clockAt 5 = .ok (.aload_n 0, 1) := by decide +kernel
theorem dX3_clockAt_6 : decode cX3_clockAt 6 = .ok (.getfield 29, 3) := by decide +kernel
theorem dX3_clockAt_9 : decode cX3_clockAt 9 = .ok (.if_icmp .ge 12, 3) := by decide +kernel
theorem dX3_clockAt_12 : decode cX3_clockAt 12 = .ok (.iload_n 1, 1) := by decide +kernel
theorem dX3_clockAt_13 : decode cX3_clockAt 13 = .ok (.aload_n 0, 1) := by decide +kernel
theorem dX3_clockAt_14 : decode cX3_clockAt 14 = .ok (.getfield 11, 3) := by decide +kernel
theorem dX3_clockAt_17 : decode cX3_clockAt 17 = .ok (.arraylength, 1) := by decide +kernel
theorem dX3_clockAt_18 : decode cX3_clockAt 18 = .ok (.if_icmp .lt 5, 3) := by decide +kernel
theorem dX3_clockAt_21 : decode cX3_clockAt 21 = .ok (.aconst_null, 1) := by decide +kernel
theorem dX3_clockAt_22 : decode cX3_clockAt 22 = .ok (.areturn, 1) := by decide +kernel
theorem dX3_clockAt_23 : decode cX3_clockAt 23 = .ok (.aload_n 0, 1) := by decide +kernel
theorem dX3_clockAt_24 : decode cX3_clockAt 24 = .ok (.getfield 11, 3) := by decide +kernel
theorem dX3_clockAt_27 : decode cX3_clockAt 27 = .ok (.iload_n 1, 1) := by decide +kernel
theorem dX3_clockAt_28 : decode cX3_clockAt 28 = .ok (.aaload, 1) := by decide +kernel
theorem dX3_clockAt_29 : decode cX3_clockAt 29 = .ok (.areturn, 1) := by decide +kernel
theorem dX3_groupAt_0 : decode cX3_groupAt 0 = .ok (.iload_n 1, 1) := by decide +kernel
theorem dX3_groupAt_1 : decode cX3_groupAt 1 = .ok (.ifCond .lt 20, 3) := by decide +kernel
theorem dX3_groupAt_4 : decode cX3_groupAt 4 = .ok (.iload_n 1, 1) := by decide +kernel
theorem dX3_groupAt_5 : decode cX3_groupAt 5 = .ok (.aload_n 0, 1) := by decide +kernel
theorem dX3_groupAt_6 : decode cX3_groupAt 6 = .ok (.getfield 36, 3) := by decide +kernel
theorem dX3_groupAt_9 : decode cX3_groupAt 9 = .ok (.if_icmp .ge 12, 3) := by decide +kernel
theorem dX3_groupAt_12 : decode cX3_groupAt 12 = .ok (.iload_n 1, 1) := by decide +kernel
theorem dX3_groupAt_13 : decode cX3_groupAt 13 = .ok (.aload_n 0, 1) := by decide +kernel
theorem dX3_groupAt_14 : decode cX3_groupAt 14 = .ok (.getfield 19, 3) := by decide +kernel
theorem dX3_groupAt_17 : decode cX3_groupAt 17 = .ok (.arraylength, 1) := by decide +kernel
theorem dX3_groupAt_18 : decode cX3_groupAt 18 = .ok (.if_icmp .lt 5, 3) := by decide +kernel
theorem dX3_groupAt_21 : decode cX3_groupAt 21 = .ok (.aconst_null, 1) := by decide +kernel
theorem dX3_groupAt_22 : decode cX3_groupAt 22 = .ok (.areturn, 1) := by decide +kernel
theorem dX3_groupAt_23 : decode cX3_groupAt 23 = .ok (.aload_n 0, 1) := by decide +kernel
theorem dX3_groupAt_24 : decode cX3_groupAt 24 = .ok (.getfield 19, 3) := by decide +kernel
theorem dX3_groupAt_27 : decode cX3_groupAt 27 = .ok (.iload_n 1, 1) := by decide +kernel
theorem dX3_groupAt_28 : decode cX3_groupAt 28 = .ok (.aaload, 1) := by decide +kernel
theorem dX3_groupAt_29 : decode cX3_groupAt 29 = .ok (.areturn, 1) := by decide +kernel
theorem dX3_addClock_0 : decode cX3_addClock 0 = .ok (.iload_n 1, 1) := by decide +kernel
theorem dX3_addClock_1 : decode cX3_addClock 1 = .ok (.iload_n 2, 1) := by decide +kernel
theorem dX3_addClock_2 : decode cX3_addClock 2 = .ok (.iload_n 3, 1) := by decide +kernel
theorem dX3_addClock_3 : decode cX3_addClock 3 = .ok (.iload 4, 2) := by decide +kernel
theorem dX3_addClock_5 : decode cX3_addClock 5 = .ok (.iload 5, 2) := by decide +kernel
theorem dX3_addClock_7 : decode cX3_addClock 7 = .ok (.invokestatic 45, 3) := by decide +kernel
theorem dX3_addClock_10 : decode cX3_addClock 10 = .ok (.ifCond .ne 6, 3) := by decide +kernel
theorem dX3_addClock_13 : decode cX3_addClock 13 = .ok (.ldc 49, 2) := by decide +kernel
theorem dX3_addClock_15 : decode cX3_addClock 15 = .ok (.ireturn, 1) := by decide +kernel
theorem dX3_addClock_16 : decode cX3_addClock 16 = .ok (.aload_n 0, 1) := by decide +kernel
theorem dX3_addClock_17 : decode cX3_addClock 17 = .ok (.getfield 29, 3) := by decide +kernel
theorem dX3_addClock_20 : decode cX3_addClock 20 = .ok (.aload_n 0, 1) := by decide +kernel
theorem dX3_addClock_21 : decode cX3_addClock 21 = .ok (.getfield 11, 3) := by decide +kernel
theorem dX3_addClock_24 : decode cX3_addClock 24 = .ok (.arraylength, 1) := by decide +kernel
theorem dX3_addClock_25 : decode cX3_addClock 25 = .ok (.if_icmp .lt 6, 3) := by decide +kernel
theorem dX3_addClock_28 : decode cX3_addClock 28 = .ok (.ldc 50, 2) := by decide +kernel
theorem dX3_addClock_30 : decode cX3_addClock 30 = .ok (.ireturn, 1) := by decide +kernel
theorem dX3_addClock_31 : decode cX3_addClock 31 = .ok (.aload_n 0, 1) := by decide +kernel
theorem dX3_addClock_32 : decode cX3_addClock 32 = .ok (.getfield 11, 3) := by decide +kernel
theorem dX3_addClock_35 : decode cX3_addClock 35 = .ok (.aload_n 0, 1) := by decide +kernel
theorem dX3_addClock_36 : decode cX3_addClock 36 = .ok (.getfield 29, 3) := by decide +kernel
theorem dX3_addClock_39 : decode cX3_addClock 39 = .ok (.aaload, 1) := by decide +kernel
theorem dX3_addClock_40 : decode cX3_addClock 40 = .ok (.astore 6, 2) := by decide +kernel
theorem dX3_addClock_42 : decode cX3_addClock 42 = .ok (.aload 6, 2) := by decide +kernel
theorem dX3_addClock_44 : decode cX3_addClock 44 = .ok (.iload_n 1, 1) := by decide +kernel
theorem dX3_addClock_45 : decode cX3_addClock 45 = .ok (.iload_n 2, 1) := by decide +kernel
theorem dX3_addClock_46 : decode cX3_addClock 46 = .ok (.iload_n 3, 1) := by decide +kernel
theorem dX3_addClock_47 : decode cX3_addClock 47 = .ok (.iload 4, 2) := by decide +kernel
theorem dX3_addClock_49 : decode cX3_addClock 49 = .ok (.iload 5, 2) := by decide +kernel
theorem dX3_addClock_51 : decode cX3_addClock 51 = .ok (.invokevirtual 51, 3) := by decide +kernel
theorem dX3_addClock_54 : decode cX3_addClock 54 = .ok (.aload_n 0, 1) := by decide +kernel
theorem dX3_addClock_55 : decode cX3_addClock 55 = .ok (.aload 6, 2) := by decide +kernel
theorem dX3_addClock_57 : decode cX3_addClock 57 = .ok (.invokevirtual 55, 3) := by decide +kernel
theorem dX3_addClock_60 : decode cX3_addClock 60 = .ok (.aload_n 0, 1) := by decide +kernel
theorem dX3_addClock_61 : decode cX3_addClock 61 = .ok (.dup, 1) := by decide +kernel
theorem dX3_addClock_62 : decode cX3_addClock 62 = .ok (.getfield 29, 3) := by decide +kernel
theorem dX3_addClock_65 : decode cX3_addClock 65 = .ok (.iconst 1, 1) := by decide +kernel
theorem dX3_addClock_66 : decode cX3_addClock 66 = .ok (.iadd, 1) := by decide +kernel
theorem dX3_addClock_67 : decode cX3_addClock 67 = .ok (.putfield 29, 3) := by decide +kernel
theorem dX3_addClock_70 : decode cX3_addClock 70 = .ok (.aload_n 0, 1) := by decide +kernel
theorem dX3_addClock_71 : decode cX3_addClock 71 = .ok (.getfield 29, 3) := by decide +kernel
theorem dX3_addClock_74 : decode cX3_addClock 74 = .ok (.iconst 1, 1) := by decide +kernel
theorem dX3_addClock_75 : decode cX3_addClock 75 = .ok (.isub, 1) := by decide +kernel
theorem dX3_addClock_76 : decode cX3_addClock 76 = .ok (.ireturn, 1) := by decide +kernel
theorem dX3_windClock_0 : decode cX3_windClock 0 = .ok (.aload_n 0, 1) := by decide +kernel
theorem dX3_windClock_1 : decode cX3_windClock 1 = .ok (.iload_n 1, 1) := by decide +kernel
theorem dX3_windClock_2 : decode cX3_windClock 2 = .ok (.invokevirtual 58, 3) := by decide +kernel
theorem dX3_windClock_5 : decode cX3_windClock 5 = .ok (.astore_n 2, 1) := by decide +kernel
theorem dX3_windClock_6 : decode cX3_windClock 6 = .ok (.aload_n 2, 1) := by decide +kernel
theorem dX3_windClock_7 : decode cX3_windClock 7 = .ok (.ifnonnull 6, 3) := by decide +kernel
theorem dX3_windClock_10 : decode cX3_windClock 10 = .ok (.ldc 49, 2) := by decide +kernel
theorem dX3_windClock_12 : decode cX3_windClock 12 = .ok (.ireturn, 1) := by decide +kernel
theorem dX3_windClock_13 : decode cX3_windClock 13 = .ok (.aload_n 0, 1) := by decide +kernel
theorem dX3_windClock_14 : decode cX3_windClock 14 = .ok (.aload_n 2, 1) := by decide +kernel
theorem dX3_windClock_15 : decode cX3_windClock 15 = .ok (.invokevirtual 55, 3) := by decide +kernel
theorem dX3_windClock_18 : decode cX3_windClock 18 = .ok (.aload_n 2, 1) := by decide +kernel
theorem dX3_windClock_19 : decode cX3_windClock 19 = .ok (.dup, 1) := by decide +kernel
theorem dX3_windClock_20 : decode cX3_windClock 20 = .ok (.getfield 62, 3) := by decide +kernel
theorem dX3_windClock_23 : decode cX3_windClock 23 = .ok (.iconst 1, 1) := by decide +kernel
theorem dX3_windClock_24 : decode cX3_windClock 24 = .ok (.iadd, 1) := by decide +kernel
theorem dX3_windClock_25 : decode cX3_windClock 25 = .ok (.putfield 62, 3) := by decide +kernel
theorem dX3_windClock_28 : decode cX3_windClock 28 = .ok (.aload_n 2, 1) := by decide +kernel
theorem dX3_windClock_29 : decode cX3_windClock 29 = .ok (.getfield 65, 3) := by decide +kernel
theorem dX3_windClock_32 : decode cX3_windClock 32 = .ok (.ireturn, 1) := by decide +kernel
theorem dX3_beginGap_0 : decode cX3_beginGap 0 = .ok (.aload_n 1, 1) := by decide +kernel
theorem dX3_beginGap_1 : decode cX3_beginGap 1 = .ok (.aload_n 1, 1) := by decide +kernel
theorem dX3_beginGap_2 : decode cX3_beginGap 2 = .ok (.getfield 68, 3) := by decide +kernel
theorem dX3_beginGap_5 : decode cX3_beginGap 5 = .ok (.iconst 1, 1) := by decide +kernel
theorem dX3_beginGap_6 : decode cX3_beginGap 6 = .ok (.if_icmp .ne 17, 3) := by decide +kernel
theorem dX3_beginGap_9 : decode cX3_beginGap 9 = .ok (.aload_n 0, 1) := by decide +kernel
theorem dX3_beginGap_10 : decode cX3_beginGap 10 = .ok (.aload_n 1, 1) := by decide +kernel
theorem dX3_beginGap_11 : decode cX3_beginGap 11 = .ok (.getfield 71, 3) := by decide +kernel
theorem dX3_beginGap_14 : decode cX3_beginGap 14 = .ok (.getfield 75, 3) := by decide +kernel
theorem dX3_beginGap_17 : decode cX3_beginGap 17 = .ok (.invokevirtual 80, 3) := by decide +kernel
theorem dX3_beginGap_20 : decode cX3_beginGap 20 = .ok (.goto 7, 3) := by decide +kernel
theorem dX3_beginGap_23 : decode cX3_beginGap 23 = .ok (.aload_n 1, 1) := by decide +kernel
theorem dX3_beginGap_24 : decode cX3_beginGap 24 = .ok (.invokevirtual 84, 3) := by decide +kernel
theorem dX3_beginGap_27 : decode cX3_beginGap 27 = .ok (.invokevirtual 88, 3) := by decide +kernel
theorem dX3_beginGap_30 : decode cX3_beginGap 30 = .ok (.return_, 1) := by decide +kernel
theorem dX3_draw_0 : decode cX3_draw 0 = .ok (.aload_n 0, 1) := by decide +kernel
theorem dX3_draw_1 : decode cX3_draw 1 = .ok (.aload_n 0, 1) := by decide +kernel
theorem dX3_draw_2 : decode cX3_draw 2 = .ok (.getfield 23, 3) := by decide +kernel
theorem dX3_draw_5 : decode cX3_draw 5 = .ok (.sipush 421, 3) := by decide +kernel
theorem dX3_draw_8 : decode cX3_draw 8 = .ok (.imul, 1) := by decide +kernel
theorem dX3_draw_9 : decode cX3_draw 9 = .ok (.sipush 1663, 3) := by decide +kernel
theorem dX3_draw_12 : decode cX3_draw 12 = .ok (.iadd, 1) := by decide +kernel
theorem dX3_draw_13 : decode cX3_draw 13 = .ok (.sipush 10000, 3) := by decide +kernel
theorem dX3_draw_16 : decode cX3_draw 16 = .ok (.irem, 1) := by decide +kernel
theorem dX3_draw_17 : decode cX3_draw 17 = .ok (.putfield 23, 3) := by decide +kernel
theorem dX3_draw_20 : decode cX3_draw 20 = .ok (.iload_n 1, 1) := by decide +kernel
theorem dX3_draw_21 : decode cX3_draw 21 = .ok (.ifCond .le 12, 3) := by decide +kernel
theorem dX3_draw_24 : decode cX3_draw 24 = .ok (.aload_n 0, 1) := by decide +kernel
theorem dX3_draw_25 : decode cX3_draw 25 = .ok (.getfield 23, 3) := by decide +kernel
theorem dX3_draw_28 : decode cX3_draw 28 = .ok (.iload_n 1, 1) := by decide +kernel
theorem dX3_draw_29 : decode cX3_draw 29 = .ok (.irem, 1) := by decide +kernel
theorem dX3_draw_30 : decode cX3_draw 30 = .ok (.goto 4, 3) := by decide +kernel
theorem dX3_draw_33 : decode cX3_draw 33 = .ok (.iconst 0, 1) := by decide +kernel
theorem dX3_draw_34 : decode cX3_draw 34 = .ok (.ireturn, 1) := by decide +kernel
theorem dX3_endTicks_0 : decode cX3_endTicks 0 = .ok (.iload_n 1, 1) := by decide +kernel
theorem dX3_endTicks_1 : decode cX3_endTicks 1 = .ok (.iconst 1, 1) := by decide +kernel
theorem dX3_endTicks_2 : decode cX3_endTicks 2 = .ok (.if_icmp .lt 10, 3) := by decide +kernel
theorem dX3_endTicks_5 : decode cX3_endTicks 5 = .ok (.iload_n 1, 1) := by decide +kernel
theorem dX3_endTicks_6 : decode cX3_endTicks 6 = .ok (.sipush 200, 3) := by decide +kernel
theorem dX3_endTicks_9 : decode cX3_endTicks 9 = .ok (.if_icmp .le 6, 3) := by decide +kernel
theorem dX3_endTicks_12 : decode cX3_endTicks 12 = .ok (.ldc 49, 2) := by decide +kernel
theorem dX3_endTicks_14 : decode cX3_endTicks 14 = .ok (.ireturn, 1) := by decide +kernel
theorem dX3_endTicks_15 : decode cX3_endTicks 15 = .ok (.aload_n 0, 1) := by decide +kernel
theorem dX3_endTicks_16 : decode cX3_endTicks 16 = .ok (.getfield 42, 3) := by decide +kernel
theorem dX3_endTicks_19 : decode cX3_endTicks 19 = .ok (.iload_n 1, 1) := by decide +kernel
theorem dX3_endTicks_20 : decode cX3_endTicks 20 = .ok (.iadd, 1) := by decide +kernel
theorem dX3_endTicks_21 : decode cX3_endTicks 21 = .ok (.ldc 92, 2) := by decide +kernel
theorem dX3_endTicks_23 : decode cX3_endTicks 23 = .ok (.if_icmp .le 6, 3) := by decide +kernel
theorem dX3_endTicks_26 : decode cX3_endTicks 26 = .ok (.ldc 50, 2) := by decide +kernel
theorem dX3_endTicks_28 : decode cX3_endTicks 28 = .ok (.ireturn, 1) := by decide +kernel
theorem dX3_endTicks_29 : decode cX3_endTicks 29 = .ok (.iconst 0, 1) := by decide +kernel
theorem dX3_endTicks_30 : decode cX3_endTicks 30 = .ok (.istore_n 2, 1) := by decide +kernel
theorem dX3_endTicks_31 : decode cX3_endTicks 31 = .ok (.iconst 0, 1) := by decide +kernel
theorem dX3_endTicks_32 : decode cX3_endTicks 32 = .ok (.istore_n 3, 1) := by decide +kernel
theorem dX3_endTicks_33 : decode cX3_endTicks 33 = .ok (.iload_n 3, 1) := by decide +kernel
theorem dX3_endTicks_34 : decode cX3_endTicks 34 = .ok (.iload_n 1, 1) := by decide +kernel
theorem dX3_endTicks_35 : decode cX3_endTicks 35 = .ok (.if_icmp .ge 16, 3) := by decide +kernel
theorem dX3_endTicks_38 : decode cX3_endTicks 38 = .ok (.iload_n 2, 1) := by decide +kernel
theorem dX3_endTicks_39 : decode cX3_endTicks 39 = .ok (.aload_n 0, 1) := by decide +kernel
theorem dX3_endTicks_40 : decode cX3_endTicks 40 = .ok (.invokevirtual 93, 3) := by decide +kernel
theorem dX3_endTicks_43 : decode cX3_endTicks 43 = .ok (.iadd, 1) := by decide +kernel
theorem dX3_endTicks_44 : decode cX3_endTicks 44 = .ok (.istore_n 2, 1) := by decide +kernel
theorem dX3_endTicks_45 : decode cX3_endTicks 45 = .ok (.iinc 3 1, 3) := by decide +kernel
theorem dX3_endTicks_48 : decode cX3_endTicks 48 = .ok (.goto (-15), 3) := by decide +kernel
theorem dX3_endTicks_51 : decode cX3_endTicks 51 = .ok (.iload_n 2, 1) := by decide +kernel
theorem dX3_endTicks_52 : decode cX3_endTicks 52 = .ok (.ireturn, 1) := by decide +kernel
theorem dX3_endTick_0 : decode cX3_endTick 0 = .ok (.aload_n 0, 1) := by decide +kernel
theorem dX3_endTick_1 : decode cX3_endTick 1 = .ok (.dup, 1) := by decide +kernel
theorem dX3_endTick_2 : decode cX3_endTick 2 = .ok (.getfield 42, 3) := by decide +kernel
theorem dX3_endTick_5 : decode cX3_endTick 5 = .ok (.iconst 1, 1) := by decide +kernel
theorem dX3_endTick_6 : decode cX3_endTick 6 = .ok (.iadd, 1) := by decide +kernel
theorem dX3_endTick_7 : decode cX3_endTick 7 = .ok (.putfield 42, 3) := by decide +kernel
theorem dX3_endTick_10 : decode cX3_endTick 10 = .ok (.iconst 0, 1) := by decide +kernel
theorem dX3_endTick_11 : decode cX3_endTick 11 = .ok (.istore_n 1, 1) := by decide +kernel
theorem dX3_endTick_12 : decode cX3_endTick 12 = .ok (.iconst 0, 1) := by decide +kernel
theorem dX3_endTick_13 : decode cX3_endTick 13 = .ok (.istore_n 2, 1) := by decide +kernel
theorem dX3_endTick_14 : decode cX3_endTick 14 = .ok (.iload_n 2, 1) := by decide +kernel
theorem dX3_endTick_15 : decode cX3_endTick 15 = .ok (.aload_n 0, 1) := by decide +kernel
theorem dX3_endTick_16 : decode cX3_endTick 16 = .ok (.getfield 29, 3) := by decide +kernel
theorem dX3_endTick_19 : decode cX3_endTick 19 = .ok (.if_icmp .ge 46, 3) := by decide +kernel
theorem dX3_endTick_22 : decode cX3_endTick 22 = .ok (.iload_n 2, 1) := by decide +kernel
theorem dX3_endTick_23 : decode cX3_endTick 23 = .ok (.aload_n 0, 1) := by decide +kernel
theorem dX3_endTick_24 : decode cX3_endTick 24 = .ok (.getfield 11, 3) := by decide +kernel
theorem dX3_endTick_27 : decode cX3_endTick 27 = .ok (.arraylength, 1) := by decide +kernel
theorem dX3_endTick_28 : decode cX3_endTick 28 = .ok (.if_icmp .ge 37, 3) := by decide +kernel
theorem dX3_endTick_31 : decode cX3_endTick 31 = .ok (.aload_n 0, 1) := by decide +kernel
theorem dX3_endTick_32 : decode cX3_endTick 32 = .ok (.getfield 11, 3) := by decide +kernel
theorem dX3_endTick_35 : decode cX3_endTick 35 = .ok (.iload_n 2, 1) := by decide +kernel
theorem dX3_endTick_36 : decode cX3_endTick 36 = .ok (.aaload, 1) := by decide +kernel
theorem dX3_endTick_37 : decode cX3_endTick 37 = .ok (.invokevirtual 96, 3) := by decide +kernel
theorem dX3_endTick_40 : decode cX3_endTick 40 = .ok (.ifCond .eq 19, 3) := by decide +kernel
theorem dX3_endTick_43 : decode cX3_endTick 43 = .ok (.iload_n 1, 1) := by decide +kernel
theorem dX3_endTick_44 : decode cX3_endTick 44 = .ok (.iconst 1, 1) := by decide +kernel
theorem dX3_endTick_45 : decode cX3_endTick 45 = .ok (.iload_n 2, 1) := by decide +kernel
theorem dX3_endTick_46 : decode cX3_endTick 46 = .ok (.ishl, 1) := by decide +kernel
theorem dX3_endTick_47 : decode cX3_endTick 47 = .ok (.ior, 1) := by decide +kernel
theorem dX3_endTick_48 : decode cX3_endTick 48 = .ok (.istore_n 1, 1) := by decide +kernel
theorem dX3_endTick_49 : decode cX3_endTick 49 = .ok (.aload_n 0, 1) := by decide +kernel
theorem dX3_endTick_50 : decode cX3_endTick 50 = .ok (.aload_n 0, 1) := by decide +kernel
theorem dX3_endTick_51 : decode cX3_endTick 51 = .ok (.getfield 11, 3) := by decide +kernel
theorem dX3_endTick_54 : decode cX3_endTick 54 = .ok (.iload_n 2, 1) := by decide +kernel
theorem dX3_endTick_55 : decode cX3_endTick 55 = .ok (.aaload, 1) := by decide +kernel
theorem dX3_endTick_56 : decode cX3_endTick 56 = .ok (.invokevirtual 55, 3) := by decide +kernel
theorem dX3_endTick_59 : decode cX3_endTick 59 = .ok (.iinc 2 1, 3) := by decide +kernel
theorem dX3_endTick_62 : decode cX3_endTick 62 = .ok (.goto (-48), 3) := by decide +kernel
theorem dX3_endTick_65 : decode cX3_endTick 65 = .ok (.iconst 0, 1) := by decide +kernel
theorem dX3_endTick_66 : decode cX3_endTick 66 = .ok (.istore_n 2, 1) := by decide +kernel
theorem dX3_endTick_67 : decode cX3_endTick 67 = .ok (.iload_n 2, 1) := by decide +kernel
theorem dX3_endTick_68 : decode cX3_endTick 68 = .ok (.aload_n 0, 1) := by decide +kernel
theorem dX3_endTick_69 : decode cX3_endTick 69 = .ok (.getfield 36, 3) := by decide +kernel
theorem dX3_endTick_72 : decode cX3_endTick 72 = .ok (.if_icmp .ge 28, 3) := by decide +kernel
theorem dX3_endTick_75 : decode cX3_endTick 75 = .ok (.iload_n 2, 1) := by decide +kernel
theorem dX3_endTick_76 : decode cX3_endTick 76 = .ok (.aload_n 0, 1) := by decide +kernel
theorem dX3_endTick_77 : decode cX3_endTick 77 = .ok (.getfield 19, 3) := by decide +kernel
theorem dX3_endTick_80 : decode cX3_endTick 80 = .ok (.arraylength, 1) := by decide +kernel
theorem dX3_endTick_81 : decode cX3_endTick 81 = .ok (.if_icmp .ge 19, 3) := by decide +kernel
theorem dX3_endTick_84 : decode cX3_endTick 84 = .ok (.aload_n 0, 1) := by decide +kernel
theorem dX3_endTick_85 : decode cX3_endTick 85 = .ok (.getfield 19, 3) := by decide +kernel
theorem dX3_endTick_88 : decode cX3_endTick 88 = .ok (.iload_n 2, 1) := by decide +kernel
theorem dX3_endTick_89 : decode cX3_endTick 89 = .ok (.aaload, 1) := by decide +kernel
theorem dX3_endTick_90 : decode cX3_endTick 90 = .ok (.iload_n 1, 1) := by decide +kernel
theorem dX3_endTick_91 : decode cX3_endTick 91 = .ok (.invokevirtual 100, 3) := by decide +kernel
theorem dX3_endTick_94 : decode cX3_endTick 94 = .ok (.iinc 2 1, 3) := by decide +kernel
theorem dX3_endTick_97 : decode cX3_endTick 97 = .ok (.goto (-30), 3) := by decide +kernel
theorem dX3_endTick_100 : decode cX3_endTick 100 = .ok (.iload_n 1, 1) := by decide +kernel
theorem dX3_endTick_101 : decode cX3_endTick 101 = .ok (.invokestatic 102, 3) := by decide +kernel
theorem dX3_endTick_104 : decode cX3_endTick 104 = .ok (.ireturn, 1) := by decide +kernel
theorem dX3_addPassenger_0 : decode cX3_addPassenger 0 = .ok (.aload_n 0, 1) := by decide +kernel
theorem dX3_addPassenger_1 : decode cX3_addPassenger 1 = .ok (.iload_n 1, 1) := by decide +kernel
theorem dX3_addPassenger_2 : decode cX3_addPassenger 2 = .ok (.invokevirtual 58, 3) := by decide +kernel
theorem dX3_addPassenger_5 : decode cX3_addPassenger 5 = .ok (.astore_n 2, 1) := by decide +kernel
theorem dX3_addPassenger_6 : decode cX3_addPassenger 6 = .ok (.aload_n 2, 1) := by decide +kernel
theorem dX3_addPassenger_7 : decode cX3_addPassenger 7 = .ok (.ifnonnull 6, 3) := by decide +kernel
theorem dX3_addPassenger_10 : decode cX3_addPassenger 10 = .ok (.ldc 49, 2) := by decide +kernel
theorem dX3_addPassenger_12 : decode cX3_addPassenger 12 = .ok (.ireturn, 1) := by decide +kernel
theorem dX3_addPassenger_13 : decode cX3_addPassenger 13 = .ok (.aload_n 2, 1) := by decide +kernel
theorem dX3_addPassenger_14 : decode cX3_addPassenger 14 = .ok (.dup, 1) := by decide +kernel
theorem dX3_addPassenger_15 : decode cX3_addPassenger 15 = .ok (.getfield 107, 3) := by decide +kernel
theorem dX3_addPassenger_18 : decode cX3_addPassenger 18 = .ok (.iconst 1, 1) := by decide +kernel
theorem dX3_addPassenger_19 : decode cX3_addPassenger 19 = .ok (.iadd, 1) := by decide +kernel
theorem dX3_addPassenger_20 : decode cX3_addPassenger 20 = .ok (.putfield 107, 3) := by decide +kernel
theorem dX3_addPassenger_23 : decode cX3_addPassenger 23 = .ok (.aload_n 2, 1) := by decide +kernel
theorem dX3_addPassenger_24 : decode cX3_addPassenger 24 = .ok (.dup, 1) := by decide +kernel
theorem dX3_addPassenger_25 : decode cX3_addPassenger 25 = .ok (.getfield 110, 3) := by decide +kernel
theorem dX3_addPassenger_28 : decode cX3_addPassenger 28 = .ok (.aload_n 2, 1) := by decide +kernel
theorem dX3_addPassenger_29 : decode cX3_addPassenger 29 = .ok (.getfield 113, 3) := by decide +kernel
theorem dX3_addPassenger_32 : decode cX3_addPassenger 32 = .ok (.iadd, 1) := by decide +kernel
theorem dX3_addPassenger_33 : decode cX3_addPassenger 33 = .ok (.putfield 110, 3) := by decide +kernel
theorem dX3_addPassenger_36 : decode cX3_addPassenger 36 = .ok (.aload_n 2, 1) := by decide +kernel
theorem dX3_addPassenger_37 : decode cX3_addPassenger 37 = .ok (.getfield 113, 3) := by decide +kernel
theorem dX3_addPassenger_40 : decode cX3_addPassenger 40 = .ok (.ireturn, 1) := by decide +kernel
theorem dX3_addGroup_0 : decode cX3_addGroup 0 = .ok (.iload_n 1, 1) := by decide +kernel
theorem dX3_addGroup_1 : decode cX3_addGroup 1 = .ok (.invokestatic 116, 3) := by decide +kernel
theorem dX3_addGroup_4 : decode cX3_addGroup 4 = .ok (.ifCond .ne 6, 3) := by decide +kernel
theorem dX3_addGroup_7 : decode cX3_addGroup 7 = .ok (.ldc 49, 2) := by decide +kernel
theorem dX3_addGroup_9 : decode cX3_addGroup 9 = .ok (.ireturn, 1) := by decide +kernel
theorem dX3_addGroup_10 : decode cX3_addGroup 10 = .ok (.aload_n 0, 1) := by decide +kernel
theorem dX3_addGroup_11 : decode cX3_addGroup 11 = .ok (.getfield 36, 3) := by decide +kernel
theorem dX3_addGroup_14 : decode cX3_addGroup 14 = .ok (.aload_n 0, 1) := by decide +kernel
theorem dX3_addGroup_15 : decode cX3_addGroup 15 = .ok (.getfield 19, 3) := by decide +kernel
theorem dX3_addGroup_18 : decode cX3_addGroup 18 = .ok (.arraylength, 1) := by decide +kernel
theorem dX3_addGroup_19 : decode cX3_addGroup 19 = .ok (.if_icmp .lt 6, 3) := by decide +kernel
theorem dX3_addGroup_22 : decode cX3_addGroup 22 = .ok (.ldc 50, 2) := by decide +kernel
theorem dX3_addGroup_24 : decode cX3_addGroup 24 = .ok (.ireturn, 1) := by decide +kernel
theorem dX3_addGroup_25 : decode cX3_addGroup 25 = .ok (.aload_n 0, 1) := by decide +kernel
theorem dX3_addGroup_26 : decode cX3_addGroup 26 = .ok (.getfield 19, 3) := by decide +kernel
theorem dX3_addGroup_29 : decode cX3_addGroup 29 = .ok (.aload_n 0, 1) := by decide +kernel
theorem dX3_addGroup_30 : decode cX3_addGroup 30 = .ok (.getfield 36, 3) := by decide +kernel
theorem dX3_addGroup_33 : decode cX3_addGroup 33 = .ok (.aaload, 1) := by decide +kernel
theorem dX3_addGroup_34 : decode cX3_addGroup 34 = .ok (.iload_n 1, 1) := by decide +kernel
theorem dX3_addGroup_35 : decode cX3_addGroup 35 = .ok (.invokevirtual 120, 3) := by decide +kernel
theorem dX3_addGroup_38 : decode cX3_addGroup 38 = .ok (.aload_n 0, 1) := by decide +kernel
theorem dX3_addGroup_39 : decode cX3_addGroup 39 = .ok (.dup, 1) := by decide +kernel
theorem dX3_addGroup_40 : decode cX3_addGroup 40 = .ok (.getfield 36, 3) := by decide +kernel
theorem dX3_addGroup_43 : decode cX3_addGroup 43 = .ok (.iconst 1, 1) := by decide +kernel
theorem dX3_addGroup_44 : decode cX3_addGroup 44 = .ok (.iadd, 1) := by decide +kernel
theorem dX3_addGroup_45 : decode cX3_addGroup 45 = .ok (.putfield 36, 3) := by decide +kernel
theorem dX3_addGroup_48 : decode cX3_addGroup 48 = .ok (.aload_n 0, 1) := by decide +kernel
theorem dX3_addGroup_49 : decode cX3_addGroup 49 = .ok (.getfield 36, 3) := by decide +kernel
theorem dX3_addGroup_52 : decode cX3_addGroup 52 = .ok (.iconst 1, 1) := by decide +kernel
theorem dX3_addGroup_53 : decode cX3_addGroup 53 = .ok (.isub, 1) := by decide +kernel
theorem dX3_addGroup_54 : decode cX3_addGroup 54 = .ok (.ireturn, 1) := by decide +kernel
theorem dX3_joinGroup_0 : decode cX3_joinGroup 0 = .ok (.aload_n 0, 1) := by decide +kernel
theorem dX3_joinGroup_1 : decode cX3_joinGroup 1 = .ok (.iload_n 1, 1) := by decide +kernel
theorem dX3_joinGroup_2 : decode cX3_joinGroup 2 = .ok (.invokevirtual 122, 3) := by decide +kernel
theorem dX3_joinGroup_5 : decode cX3_joinGroup 5 = .ok (.astore_n 3, 1) := by decide +kernel
theorem dX3_joinGroup_6 : decode cX3_joinGroup 6 = .ok (.aload_n 0, 1) := by decide +kernel
theorem dX3_joinGroup_7 : decode cX3_joinGroup 7 = .ok (.iload_n 2, 1) := by decide +kernel
theorem dX3_joinGroup_8 : decode cX3_joinGroup 8 = .ok (.invokevirtual 58, 3) := by decide +kernel
theorem dX3_joinGroup_11 : decode cX3_joinGroup 11 = .ok (.astore 4, 2) := by decide +kernel
theorem dX3_joinGroup_13 : decode cX3_joinGroup 13 = .ok (.aload_n 3, 1) := by decide +kernel
theorem dX3_joinGroup_14 : decode cX3_joinGroup 14 = .ok (.ifnull 8, 3) := by decide +kernel
theorem dX3_joinGroup_17 : decode cX3_joinGroup 17 = .ok (.aload 4, 2) := by decide +kernel
theorem dX3_joinGroup_19 : decode cX3_joinGroup 19 = .ok (.ifnonnull 6, 3) := by decide +kernel
theorem dX3_joinGroup_22 : decode cX3_joinGroup 22 = .ok (.ldc 49, 2) := by decide +kernel
theorem dX3_joinGroup_24 : decode cX3_joinGroup 24 = .ok (.ireturn, 1) := by decide +kernel
theorem dX3_joinGroup_25 : decode cX3_joinGroup 25 = .ok (.aload 4, 2) := by decide +kernel
theorem dX3_joinGroup_27 : decode cX3_joinGroup 27 = .ok (.getfield 68, 3) := by decide +kernel
theorem dX3_joinGroup_30 : decode cX3_joinGroup 30 = .ok (.aload_n 3, 1) := by decide +kernel
theorem dX3_joinGroup_31 : decode cX3_joinGroup 31 = .ok (.getfield 126, 3) := by decide +kernel
theorem dX3_joinGroup_34 : decode cX3_joinGroup 34 = .ok (.if_icmp .ne 11, 3) := by decide +kernel
theorem dX3_joinGroup_37 : decode cX3_joinGroup 37 = .ok (.aload_n 3, 1) := by decide +kernel
theorem dX3_joinGroup_38 : decode cX3_joinGroup 38 = .ok (.iload_n 2, 1) := by decide +kernel
theorem dX3_joinGroup_39 : decode cX3_joinGroup 39 = .ok (.invokevirtual 127, 3) := by decide +kernel
theorem dX3_joinGroup_42 : decode cX3_joinGroup 42 = .ok (.ifCond .eq 6, 3) := by decide +kernel
theorem dX3_joinGroup_45 : decode cX3_joinGroup 45 = .ok (.ldc 130, 2) := by decide +kernel
theorem dX3_joinGroup_47 : decode cX3_joinGroup 47 = .ok (.ireturn, 1) := by decide +kernel
theorem dX3_joinGroup_48 : decode cX3_joinGroup 48 = .ok (.aload_n 3, 1) := by decide +kernel
theorem dX3_joinGroup_49 : decode cX3_joinGroup 49 = .ok (.invokevirtual 131, 3) := by decide +kernel
theorem dX3_joinGroup_52 : decode cX3_joinGroup 52 = .ok (.iconst 4, 1) := by decide +kernel
theorem dX3_joinGroup_53 : decode cX3_joinGroup 53 = .ok (.if_icmp .lt 6, 3) := by decide +kernel
theorem dX3_joinGroup_56 : decode cX3_joinGroup 56 = .ok (.ldc 50, 2) := by decide +kernel
theorem dX3_joinGroup_58 : decode cX3_joinGroup 58 = .ok (.ireturn, 1) := by decide +kernel
theorem dX3_joinGroup_59 : decode cX3_joinGroup 59 = .ok (.aload_n 3, 1) := by decide +kernel
theorem dX3_joinGroup_60 : decode cX3_joinGroup 60 = .ok (.dup, 1) := by decide +kernel
theorem dX3_joinGroup_61 : decode cX3_joinGroup 61 = .ok (.getfield 134, 3) := by decide +kernel
theorem dX3_joinGroup_64 : decode cX3_joinGroup 64 = .ok (.iconst 1, 1) := by decide +kernel
theorem dX3_joinGroup_65 : decode cX3_joinGroup 65 = .ok (.iload_n 2, 1) := by decide +kernel
theorem dX3_joinGroup_66 : decode cX3_joinGroup 66 = .ok (.ishl, 1) := by decide +kernel
theorem dX3_joinGroup_67 : decode cX3_joinGroup 67 = .ok (.ior, 1) := by decide +kernel
theorem dX3_joinGroup_68 : decode cX3_joinGroup 68 = .ok (.putfield 134, 3) := by decide +kernel
theorem dX3_joinGroup_71 : decode cX3_joinGroup 71 = .ok (.aload_n 3, 1) := by decide +kernel
theorem dX3_joinGroup_72 : decode cX3_joinGroup 72 = .ok (.invokevirtual 131, 3) := by decide +kernel
theorem dX3_joinGroup_75 : decode cX3_joinGroup 75 = .ok (.ireturn, 1) := by decide +kernel
theorem dX3_leaveGroup_0 : decode cX3_leaveGroup 0 = .ok (.aload_n 0, 1) := by decide +kernel
theorem dX3_leaveGroup_1 : decode cX3_leaveGroup 1 = .ok (.iload_n 1, 1) := by decide +kernel
theorem dX3_leaveGroup_2 : decode cX3_leaveGroup 2 = .ok (.invokevirtual 122, 3) := by decide +kernel
theorem dX3_leaveGroup_5 : decode cX3_leaveGroup 5 = .ok (.astore_n 3, 1) := by decide +kernel
theorem dX3_leaveGroup_6 : decode cX3_leaveGroup 6 = .ok (.aload_n 3, 1) := by decide +kernel
theorem dX3_leaveGroup_7 : decode cX3_leaveGroup 7 = .ok (.ifnull 11, 3) := by decide +kernel
theorem dX3_leaveGroup_10 : decode cX3_leaveGroup 10 = .ok (.aload_n 0, 1) := by decide +kernel
theorem dX3_leaveGroup_11 : decode cX3_leaveGroup 11 = .ok (.iload_n 2, 1) := by decide +kernel
theorem dX3_leaveGroup_12 : decode cX3_leaveGroup 12 = .ok (.invokevirtual 58, 3) := by decide +kernel
theorem dX3_leaveGroup_15 : decode cX3_leaveGroup 15 = .ok (.ifnonnull 6, 3) := by decide +kernel
theorem dX3_leaveGroup_18 : decode cX3_leaveGroup 18 = .ok (.ldc 49, 2) := by decide +kernel
theorem dX3_leaveGroup_20 : decode cX3_leaveGroup 20 = .ok (.ireturn, 1) := by decide +kernel
theorem dX3_leaveGroup_21 : decode cX3_leaveGroup 21 = .ok (.aload_n 3, 1) := by decide +kernel
theorem dX3_leaveGroup_22 : decode cX3_leaveGroup 22 = .ok (.iload_n 2, 1) := by decide +kernel
theorem dX3_leaveGroup_23 : decode cX3_leaveGroup 23 = .ok (.invokevirtual 127, 3) := by decide +kernel
theorem dX3_leaveGroup_26 : decode cX3_leaveGroup 26 = .ok (.ifCond .ne 6, 3) := by decide +kernel
theorem dX3_leaveGroup_29 : decode cX3_leaveGroup 29 = .ok (.ldc 130, 2) := by decide +kernel
theorem dX3_leaveGroup_31 : decode cX3_leaveGroup 31 = .ok (.ireturn, 1) := by decide +kernel
theorem dX3_leaveGroup_32 : decode cX3_leaveGroup 32 = .ok (.aload_n 3, 1) := by decide +kernel
theorem dX3_leaveGroup_33 : decode cX3_leaveGroup 33 = .ok (.dup, 1) := by decide +kernel
theorem dX3_leaveGroup_34 : decode cX3_leaveGroup 34 = .ok (.getfield 134, 3) := by decide +kernel
theorem dX3_leaveGroup_37 : decode cX3_leaveGroup 37 = .ok (.iconst 1, 1) := by decide +kernel
theorem dX3_leaveGroup_38 : decode cX3_leaveGroup 38 = .ok (.iload_n 2, 1) := by decide +kernel
theorem dX3_leaveGroup_39 : decode cX3_leaveGroup 39 = .ok (.ishl, 1) := by decide +kernel
theorem dX3_leaveGroup_40 : decode cX3_leaveGroup 40 = .ok (.iconst (-1), 1) := by decide +kernel
theorem dX3_leaveGroup_41 : decode cX3_leaveGroup 41 = .ok (.ixor, 1) := by decide +kernel
theorem dX3_leaveGroup_42 : decode cX3_leaveGroup 42 = .ok (.iand, 1) := by decide +kernel
theorem dX3_leaveGroup_43 : decode cX3_leaveGroup 43 = .ok (.putfield 134, 3) := by decide +kernel
theorem dX3_leaveGroup_46 : decode cX3_leaveGroup 46 = .ok (.aload_n 3, 1) := by decide +kernel
theorem dX3_leaveGroup_47 : decode cX3_leaveGroup 47 = .ok (.invokevirtual 131, 3) := by decide +kernel
theorem dX3_leaveGroup_50 : decode cX3_leaveGroup 50 = .ok (.ireturn, 1) := by decide +kernel
theorem dX3_leastRest_0 : decode cX3_leastRest 0 = .ok (.ldc 137, 2) := by decide +kernel
theorem dX3_leastRest_2 : decode cX3_leastRest 2 = .ok (.istore_n 2, 1) := by decide +kernel
theorem dX3_leastRest_3 : decode cX3_leastRest 3 = .ok (.iconst 0, 1) := by decide +kernel
theorem dX3_leastRest_4 : decode cX3_leastRest 4 = .ok (.istore_n 3, 1) := by decide +kernel
theorem dX3_leastRest_5 : decode cX3_leastRest 5 = .ok (.iload_n 3, 1) := by decide +kernel
theorem dX3_leastRest_6 : decode cX3_leastRest 6 = .ok (.aload_n 0, 1) := by decide +kernel
theorem dX3_leastRest_7 : decode cX3_leastRest 7 = .ok (.getfield 29, 3) := by decide +kernel
theorem dX3_leastRest_10 : decode cX3_leastRest 10 = .ok (.if_icmp .ge 67, 3) := by decide +kernel
theorem dX3_leastRest_13 : decode cX3_leastRest 13 = .ok (.iload_n 3, 1) := by decide +kernel
theorem dX3_leastRest_14 : decode cX3_leastRest 14 = .ok (.aload_n 0, 1) := by decide +kernel
theorem dX3_leastRest_15 : decode cX3_leastRest 15 = .ok (.getfield 11, 3) := by decide +kernel
theorem dX3_leastRest_18 : decode cX3_leastRest 18 = .ok (.arraylength, 1) := by decide +kernel
theorem dX3_leastRest_19 : decode cX3_leastRest 19 = .ok (.if_icmp .ge 58, 3) := by decide +kernel
theorem dX3_leastRest_22 : decode cX3_leastRest 22 = .ok (.iload_n 1, 1) := by decide +kernel
theorem dX3_leastRest_23 : decode cX3_leastRest 23 = .ok (.iconst 1, 1) := by decide +kernel
theorem dX3_leastRest_24 : decode cX3_leastRest 24 = .ok (.iload_n 3, 1) := by decide +kernel
theorem dX3_leastRest_25 : decode cX3_leastRest 25 = .ok (.ishl, 1) := by decide +kernel
theorem dX3_leastRest_26 : decode cX3_leastRest 26 = .ok (.iand, 1) := by decide +kernel
theorem dX3_leastRest_27 : decode cX3_leastRest 27 = .ok (.ifCond .eq 7, 3) := by decide +kernel
theorem dX3_leastRest_30 : decode cX3_leastRest 30 = .ok (.iconst 1, 1) := by decide +kernel
theorem dX3_leastRest_31 : decode cX3_leastRest 31 = .ok (.goto 4, 3) := by decide +kernel
theorem dX3_leastRest_34 : decode cX3_leastRest 34 = .ok (.iconst 0, 1) := by decide +kernel
theorem dX3_leastRest_35 : decode cX3_leastRest 35 = .ok (.istore 4, 2) := by decide +kernel
theorem dX3_leastRest_37 : decode cX3_leastRest 37 = .ok (.iload 4, 2) := by decide +kernel
theorem dX3_leastRest_39 : decode cX3_leastRest 39 = .ok (.ifCond .eq 32, 3) := by decide +kernel
theorem dX3_leastRest_42 : decode cX3_leastRest 42 = .ok (.iload_n 2, 1) := by decide +kernel
theorem dX3_leastRest_43 : decode cX3_leastRest 43 = .ok (.ldc 137, 2) := by decide +kernel
theorem dX3_leastRest_45 : decode cX3_leastRest 45 = .ok (.if_icmp .eq 16, 3) := by decide +kernel
theorem dX3_leastRest_48 : decode cX3_leastRest 48 = .ok (.aload_n 0, 1) := by decide +kernel
theorem dX3_leastRest_49 : decode cX3_leastRest 49 = .ok (.getfield 11, 3) := by decide +kernel
theorem dX3_leastRest_52 : decode cX3_leastRest 52 = .ok (.iload_n 3, 1) := by decide +kernel
theorem dX3_leastRest_53 : decode cX3_leastRest 53 = .ok (.aaload, 1) := by decide +kernel
theorem dX3_leastRest_54 : decode cX3_leastRest 54 = .ok (.getfield 113, 3) := by decide +kernel
theorem dX3_leastRest_57 : decode cX3_leastRest 57 = .ok (.iload_n 2, 1) := by decide +kernel
theorem dX3_leastRest_58 : decode cX3_leastRest 58 = .ok (.if_icmp .ge 13, 3) := by decide +kernel
theorem dX3_leastRest_61 : decode cX3_leastRest 61 = .ok (.aload_n 0, 1) := by decide +kernel
theorem dX3_leastRest_62 : decode cX3_leastRest 62 = .ok (.getfield 11, 3) := by decide +kernel
theorem dX3_leastRest_65 : decode cX3_leastRest 65 = .ok (.iload_n 3, 1) := by decide +kernel
theorem dX3_leastRest_66 : decode cX3_leastRest 66 = .ok (.aaload, 1) := by decide +kernel
theorem dX3_leastRest_67 : decode cX3_leastRest 67 = .ok (.getfield 113, 3) := by decide +kernel
theorem dX3_leastRest_70 : decode cX3_leastRest 70 = .ok (.istore_n 2, 1) := by decide +kernel
theorem dX3_leastRest_71 : decode cX3_leastRest 71 = .ok (.iinc 3 1, 3) := by decide +kernel
theorem dX3_leastRest_74 : decode cX3_leastRest 74 = .ok (.goto (-69), 3) := by decide +kernel
theorem dX3_leastRest_77 : decode cX3_leastRest 77 = .ok (.iload_n 2, 1) := by decide +kernel
theorem dX3_leastRest_78 : decode cX3_leastRest 78 = .ok (.ireturn, 1) := by decide +kernel
theorem dX3_sumOver_0 : decode cX3_sumOver 0 = .ok (.iconst 0, 1) := by decide +kernel
theorem dX3_sumOver_1 : decode cX3_sumOver 1 = .ok (.istore_n 3, 1) := by decide +kernel
theorem dX3_sumOver_2 : decode cX3_sumOver 2 = .ok (.iconst 0, 1) := by decide +kernel
theorem dX3_sumOver_3 : decode cX3_sumOver 3 = .ok (.istore 4, 2) := by decide +kernel
theorem dX3_sumOver_5 : decode cX3_sumOver 5 = .ok (.iload 4, 2) := by decide +kernel
theorem dX3_sumOver_7 : decode cX3_sumOver 7 = .ok (.aload_n 0, 1) := by decide +kernel
theorem dX3_sumOver_8 : decode cX3_sumOver 8 = .ok (.getfield 29, 3) := by decide +kernel
theorem dX3_sumOver_11 : decode cX3_sumOver 11 = .ok (.if_icmp .ge 42, 3) := by decide +kernel
theorem dX3_sumOver_14 : decode cX3_sumOver 14 = .ok (.iload 4, 2) := by decide +kernel
theorem dX3_sumOver_16 : decode cX3_sumOver 16 = .ok (.aload_n 0, 1) := by decide +kernel
theorem dX3_sumOver_17 : decode cX3_sumOver 17 = .ok (.getfield 11, 3) := by decide +kernel
theorem dX3_sumOver_20 : decode cX3_sumOver 20 = .ok (.arraylength, 1) := by decide +kernel
theorem dX3_sumOver_21 : decode cX3_sumOver 21 = .ok (.if_icmp .ge 32, 3) := by decide +kernel
theorem dX3_sumOver_24 : decode cX3_sumOver 24 = .ok (.iload_n 1, 1) := by decide +kernel
theorem dX3_sumOver_25 : decode cX3_sumOver 25 = .ok (.iconst 1, 1) := by decide +kernel
theorem dX3_sumOver_26 : decode cX3_sumOver 26 = .ok (.iload 4, 2) := by decide +kernel
theorem dX3_sumOver_28 : decode cX3_sumOver 28 = .ok (.ishl, 1) := by decide +kernel
theorem dX3_sumOver_29 : decode cX3_sumOver 29 = .ok (.iand, 1) := by decide +kernel
theorem dX3_sumOver_30 : decode cX3_sumOver 30 = .ok (.ifCond .eq 17, 3) := by decide +kernel
theorem dX3_sumOver_33 : decode cX3_sumOver 33 = .ok (.iload_n 3, 1) := by decide +kernel
theorem dX3_sumOver_34 : decode cX3_sumOver 34 = .ok (.aload_n 0, 1) := by decide +kernel
theorem dX3_sumOver_35 : decode cX3_sumOver 35 = .ok (.getfield 11, 3) := by decide +kernel
theorem dX3_sumOver_38 : decode cX3_sumOver 38 = .ok (.iload 4, 2) := by decide +kernel
theorem dX3_sumOver_40 : decode cX3_sumOver 40 = .ok (.aaload, 1) := by decide +kernel
theorem dX3_sumOver_41 : decode cX3_sumOver 41 = .ok (.iload_n 2, 1) := by decide +kernel
theorem dX3_sumOver_42 : decode cX3_sumOver 42 = .ok (.invokevirtual 138, 3) := by decide +kernel
theorem dX3_sumOver_45 : decode cX3_sumOver 45 = .ok (.iadd, 1) := by decide +kernel
theorem dX3_sumOver_46 : decode cX3_sumOver 46 = .ok (.istore_n 3, 1) := by decide +kernel
theorem dX3_sumOver_47 : decode cX3_sumOver 47 = .ok (.iinc 4 1, 3) := by decide +kernel
theorem dX3_sumOver_50 : decode cX3_sumOver 50 = .ok (.goto (-45), 3) := by decide +kernel
theorem dX3_sumOver_53 : decode cX3_sumOver 53 = .ok (.iload_n 3, 1) := by decide +kernel
theorem dX3_sumOver_54 : decode cX3_sumOver 54 = .ok (.ireturn, 1) := by decide +kernel
theorem dX3_clockInPlace_0 : decode cX3_clockInPlace 0 = .ok (.iconst 0, 1) := by decide +kernel
theorem dX3_clockInPlace_1 : decode cX3_clockInPlace 1 = .ok (.istore_n 2, 1) := by decide +kernel
theorem dX3_clockInPlace_2 : decode cX3_clockInPlace 2 = .ok (.iload_n 2, 1) := by decide +kernel
theorem dX3_clockInPlace_3 : decode cX3_clockInPlace 3 = .ok (.aload_n 0, 1) := by decide +kernel
theorem dX3_clockInPlace_4 : decode cX3_clockInPlace 4 = .ok (.getfield 29, 3) := by decide +kernel
theorem dX3_clockInPlace_7 : decode cX3_clockInPlace 7 = .ok (.if_icmp .ge 38, 3) := by decide +kernel
theorem dX3_clockInPlace_10 : decode cX3_clockInPlace 10 = .ok (.iload_n 2, 1) := by decide +kernel
theorem dX3_clockInPlace_11 : decode cX3_clockInPlace 11 = .ok (.aload_n 0, 1) := by decide +kernel
theorem dX3_clockInPlace_12 : decode cX3_clockInPlace 12 = .ok (.getfield 11, 3) := by decide +kernel
theorem dX3_clockInPlace_15 : decode cX3_clockInPlace 15 = .ok (.arraylength, 1) := by decide +kernel
theorem dX3_clockInPlace_16 : decode cX3_clockInPlace 16 = .ok (.if_icmp .ge 29, 3) := by decide +kernel
theorem dX3_clockInPlace_19 : decode cX3_clockInPlace 19 = .ok (.aload_n 0, 1) := by decide +kernel
theorem dX3_clockInPlace_20 : decode cX3_clockInPlace 20 = .ok (.iload_n 2, 1) := by decide +kernel
theorem dX3_clockInPlace_21 : decode cX3_clockInPlace 21 = .ok (.aload_n 0, 1) := by decide +kernel
theorem dX3_clockInPlace_22 : decode cX3_clockInPlace 22 = .ok (.getfield 11, 3) := by decide +kernel
theorem dX3_clockInPlace_25 : decode cX3_clockInPlace 25 = .ok (.iload_n 2, 1) := by decide +kernel
theorem dX3_clockInPlace_26 : decode cX3_clockInPlace 26 = .ok (.aaload, 1) := by decide +kernel
theorem dX3_clockInPlace_27 : decode cX3_clockInPlace 27 = .ok (.getfield 113, 3) := by decide +kernel
theorem dX3_clockInPlace_30 : decode cX3_clockInPlace 30 = .ok (.invokevirtual 141, 3) := by decide +kernel
theorem dX3_clockInPlace_33 : decode cX3_clockInPlace 33 = .ok (.iload_n 1, 1) := by decide +kernel
theorem dX3_clockInPlace_34 : decode cX3_clockInPlace 34 = .ok (.if_icmp .ne 5, 3) := by decide +kernel
theorem dX3_clockInPlace_37 : decode cX3_clockInPlace 37 = .ok (.iload_n 2, 1) := by decide +kernel
theorem dX3_clockInPlace_38 : decode cX3_clockInPlace 38 = .ok (.ireturn, 1) := by decide +kernel
theorem dX3_clockInPlace_39 : decode cX3_clockInPlace 39 = .ok (.iinc 2 1, 3) := by decide +kernel
theorem dX3_clockInPlace_42 : decode cX3_clockInPlace 42 = .ok (.goto (-40), 3) := by decide +kernel
theorem dX3_clockInPlace_45 : decode cX3_clockInPlace 45 = .ok (.ldc 137, 2) := by decide +kernel
theorem dX3_clockInPlace_47 : decode cX3_clockInPlace 47 = .ok (.ireturn, 1) := by decide +kernel
theorem dX3_clocksAhead_0 : decode cX3_clocksAhead 0 = .ok (.iconst 0, 1) := by decide +kernel
theorem dX3_clocksAhead_1 : decode cX3_clocksAhead 1 = .ok (.istore_n 3, 1) := by decide +kernel
theorem dX3_clocksAhead_2 : decode cX3_clocksAhead 2 = .ok (.iconst 0, 1) := by decide +kernel
theorem dX3_clocksAhead_3 : decode cX3_clocksAhead 3 = .ok (.istore 4, 2) := by decide +kernel
theorem dX3_clocksAhead_5 : decode cX3_clocksAhead 5 = .ok (.iload 4, 2) := by decide +kernel
theorem dX3_clocksAhead_7 : decode cX3_clocksAhead 7 = .ok (.aload_n 0, 1) := by decide +kernel
theorem dX3_clocksAhead_8 : decode cX3_clocksAhead 8 = .ok (.getfield 29, 3) := by decide +kernel
theorem dX3_clocksAhead_11 : decode cX3_clocksAhead 11 = .ok (.if_icmp .ge 52, 3) := by decide +kernel
theorem dX3_clocksAhead_14 : decode cX3_clocksAhead 14 = .ok (.iload 4, 2) := by decide +kernel
theorem dX3_clocksAhead_16 : decode cX3_clocksAhead 16 = .ok (.aload_n 0, 1) := by decide +kernel
theorem dX3_clocksAhead_17 : decode cX3_clocksAhead 17 = .ok (.getfield 11, 3) := by decide +kernel
theorem dX3_clocksAhead_20 : decode cX3_clocksAhead 20 = .ok (.arraylength, 1) := by decide +kernel
theorem dX3_clocksAhead_21 : decode cX3_clocksAhead 21 = .ok (.if_icmp .ge 42, 3) := by decide +kernel
theorem dX3_clocksAhead_24 : decode cX3_clocksAhead 24 = .ok (.aload_n 0, 1) := by decide +kernel
theorem dX3_clocksAhead_25 : decode cX3_clocksAhead 25 = .ok (.getfield 11, 3) := by decide +kernel
theorem dX3_clocksAhead_28 : decode cX3_clocksAhead 28 = .ok (.iload 4, 2) := by decide +kernel
theorem dX3_clocksAhead_30 : decode cX3_clocksAhead 30 = .ok (.aaload, 1) := by decide +kernel
theorem dX3_clocksAhead_31 : decode cX3_clocksAhead 31 = .ok (.getfield 113, 3) := by decide +kernel
theorem dX3_clocksAhead_34 : decode cX3_clocksAhead 34 = .ok (.istore 5, 2) := by decide +kernel
theorem dX3_clocksAhead_36 : decode cX3_clocksAhead 36 = .ok (.iload 5, 2) := by decide +kernel
theorem dX3_clocksAhead_38 : decode cX3_clocksAhead 38 = .ok (.iload_n 2, 1) := by decide +kernel
theorem dX3_clocksAhead_39 : decode cX3_clocksAhead 39 = .ok (.if_icmp .lt 15, 3) := by decide +kernel
theorem dX3_clocksAhead_42 : decode cX3_clocksAhead 42 = .ok (.iload 5, 2) := by decide +kernel
theorem dX3_clocksAhead_44 : decode cX3_clocksAhead 44 = .ok (.iload_n 2, 1) := by decide +kernel
theorem dX3_clocksAhead_45 : decode cX3_clocksAhead 45 = .ok (.if_icmp .ne 12, 3) := by decide +kernel
theorem dX3_clocksAhead_48 : decode cX3_clocksAhead 48 = .ok (.iload 4, 2) := by decide +kernel
theorem dX3_clocksAhead_50 : decode cX3_clocksAhead 50 = .ok (.iload_n 1, 1) := by decide +kernel
theorem dX3_clocksAhead_51 : decode cX3_clocksAhead 51 = .ok (.if_icmp .ge 6, 3) := by decide +kernel
theorem dX3_clocksAhead_54 : decode cX3_clocksAhead 54 = .ok (.iinc 3 1, 3) := by decide +kernel
theorem dX3_clocksAhead_57 : decode cX3_clocksAhead 57 = .ok (.iinc 4 1, 3) := by decide +kernel
theorem dX3_clocksAhead_60 : decode cX3_clocksAhead 60 = .ok (.goto (-55), 3) := by decide +kernel
theorem dX3_clocksAhead_63 : decode cX3_clocksAhead 63 = .ok (.iload_n 3, 1) := by decide +kernel
theorem dX3_clocksAhead_64 : decode cX3_clocksAhead 64 = .ok (.ireturn, 1) := by decide +kernel
theorem dX3_aboutToTell_0 : decode cX3_aboutToTell 0 = .ok (.iconst 0, 1) := by decide +kernel
theorem dX3_aboutToTell_1 : decode cX3_aboutToTell 1 = .ok (.istore_n 1, 1) := by decide +kernel
theorem dX3_aboutToTell_2 : decode cX3_aboutToTell 2 = .ok (.iconst 0, 1) := by decide +kernel
theorem dX3_aboutToTell_3 : decode cX3_aboutToTell 3 = .ok (.istore_n 2, 1) := by decide +kernel
theorem dX3_aboutToTell_4 : decode cX3_aboutToTell 4 = .ok (.iload_n 2, 1) := by decide +kernel
theorem dX3_aboutToTell_5 : decode cX3_aboutToTell 5 = .ok (.aload_n 0, 1) := by decide +kernel
theorem dX3_aboutToTell_6 : decode cX3_aboutToTell 6 = .ok (.getfield 29, 3) := by decide +kernel
theorem dX3_aboutToTell_9 : decode cX3_aboutToTell 9 = .ok (.if_icmp .ge 37, 3) := by decide +kernel
theorem dX3_aboutToTell_12 : decode cX3_aboutToTell 12 = .ok (.iload_n 2, 1) := by decide +kernel
theorem dX3_aboutToTell_13 : decode cX3_aboutToTell 13 = .ok (.aload_n 0, 1) := by decide +kernel
theorem dX3_aboutToTell_14 : decode cX3_aboutToTell 14 = .ok (.getfield 11, 3) := by decide +kernel
theorem dX3_aboutToTell_17 : decode cX3_aboutToTell 17 = .ok (.arraylength, 1) := by decide +kernel
theorem dX3_aboutToTell_18 : decode cX3_aboutToTell 18 = .ok (.if_icmp .ge 28, 3) := by decide +kernel
theorem dX3_aboutToTell_21 : decode cX3_aboutToTell 21 = .ok (.aload_n 0, 1) := by decide +kernel
theorem dX3_aboutToTell_22 : decode cX3_aboutToTell 22 = .ok (.getfield 11, 3) := by decide +kernel
theorem dX3_aboutToTell_25 : decode cX3_aboutToTell 25 = .ok (.iload_n 2, 1) := by decide +kernel
theorem dX3_aboutToTell_26 : decode cX3_aboutToTell 26 = .ok (.aaload, 1) := by decide +kernel
theorem dX3_aboutToTell_27 : decode cX3_aboutToTell 27 = .ok (.getfield 113, 3) := by decide +kernel
theorem dX3_aboutToTell_30 : decode cX3_aboutToTell 30 = .ok (.iconst 1, 1) := by decide +kernel
theorem dX3_aboutToTell_31 : decode cX3_aboutToTell 31 = .ok (.if_icmp .ne 9, 3) := by decide +kernel
theorem dX3_aboutToTell_34 : decode cX3_aboutToTell 34 = .ok (.iload_n 1, 1) := by decide +kernel
theorem dX3_aboutToTell_35 : decode cX3_aboutToTell 35 = .ok (.iconst 1, 1) := by decide +kernel
theorem dX3_aboutToTell_36 : decode cX3_aboutToTell 36 = .ok (.iload_n 2, 1) := by decide +kernel
theorem dX3_aboutToTell_37 : decode cX3_aboutToTell 37 = .ok (.ishl, 1) := by decide +kernel
theorem dX3_aboutToTell_38 : decode cX3_aboutToTell 38 = .ok (.ior, 1) := by decide +kernel
theorem dX3_aboutToTell_39 : decode cX3_aboutToTell 39 = .ok (.istore_n 1, 1) := by decide +kernel
theorem dX3_aboutToTell_40 : decode cX3_aboutToTell 40 = .ok (.iinc 2 1, 3) := by decide +kernel
theorem dX3_aboutToTell_43 : decode cX3_aboutToTell 43 = .ok (.goto (-39), 3) := by decide +kernel
theorem dX3_aboutToTell_46 : decode cX3_aboutToTell 46 = .ok (.iload_n 1, 1) := by decide +kernel
theorem dX3_aboutToTell_47 : decode cX3_aboutToTell 47 = .ok (.ireturn, 1) := by decide +kernel
theorem dX3_greatestAge_0 : decode cX3_greatestAge 0 = .ok (.ldc 137, 2) := by decide +kernel
theorem dX3_greatestAge_2 : decode cX3_greatestAge 2 = .ok (.istore_n 1, 1) := by decide +kernel
theorem dX3_greatestAge_3 : decode cX3_greatestAge 3 = .ok (.iconst 0, 1) := by decide +kernel
theorem dX3_greatestAge_4 : decode cX3_greatestAge 4 = .ok (.istore_n 2, 1) := by decide +kernel
theorem dX3_greatestAge_5 : decode cX3_greatestAge 5 = .ok (.iload_n 2, 1) := by decide +kernel
theorem dX3_greatestAge_6 : decode cX3_greatestAge 6 = .ok (.aload_n 0, 1) := by decide +kernel
theorem dX3_greatestAge_7 : decode cX3_greatestAge 7 = .ok (.getfield 29, 3) := by decide +kernel
theorem dX3_greatestAge_10 : decode cX3_greatestAge 10 = .ok (.if_icmp .ge 32, 3) := by decide +kernel
theorem dX3_greatestAge_13 : decode cX3_greatestAge 13 = .ok (.iload_n 2, 1) := by decide +kernel
theorem dX3_greatestAge_14 : decode cX3_greatestAge 14 = .ok (.aload_n 0, 1) := by decide +kernel
theorem dX3_greatestAge_15 : decode cX3_greatestAge 15 = .ok (.getfield 11, 3) := by decide +kernel
theorem dX3_greatestAge_18 : decode cX3_greatestAge 18 = .ok (.arraylength, 1) := by decide +kernel
theorem dX3_greatestAge_19 : decode cX3_greatestAge 19 = .ok (.if_icmp .ge 23, 3) := by decide +kernel
theorem dX3_greatestAge_22 : decode cX3_greatestAge 22 = .ok (.iload_n 1, 1) := by decide +kernel
theorem dX3_greatestAge_23 : decode cX3_greatestAge 23 = .ok (.aload_n 0, 1) := by decide +kernel
theorem dX3_greatestAge_24 : decode cX3_greatestAge 24 = .ok (.getfield 11, 3) := by decide +kernel
theorem dX3_greatestAge_27 : decode cX3_greatestAge 27 = .ok (.iload_n 2, 1) := by decide +kernel
theorem dX3_greatestAge_28 : decode cX3_greatestAge 28 = .ok (.aaload, 1) := by decide +kernel
theorem dX3_greatestAge_29 : decode cX3_greatestAge 29 = .ok (.invokevirtual 149, 3) := by decide +kernel
theorem dX3_greatestAge_32 : decode cX3_greatestAge 32 = .ok (.invokestatic 152, 3) := by decide +kernel
theorem dX3_greatestAge_35 : decode cX3_greatestAge 35 = .ok (.istore_n 1, 1) := by decide +kernel
theorem dX3_greatestAge_36 : decode cX3_greatestAge 36 = .ok (.iinc 2 1, 3) := by decide +kernel
theorem dX3_greatestAge_39 : decode cX3_greatestAge 39 = .ok (.goto (-34), 3) := by decide +kernel
theorem dX3_greatestAge_42 : decode cX3_greatestAge 42 = .ok (.iload_n 1, 1) := by decide +kernel
theorem dX3_greatestAge_43 : decode cX3_greatestAge 43 = .ok (.ireturn, 1) := by decide +kernel
theorem dX4_init_0 : decode cX4_init 0 = .ok (.aload_n 0, 1) := by decide +kernel
theorem dX4_init_1 : decode cX4_init 1 = .ok (.invokespecial 3, 3) := by decide +kernel
theorem dX4_init_4 : decode cX4_init 4 = .ok (.aload_n 0, 1) := by decide +kernel
theorem dX4_init_5 : decode cX4_init 5 = .ok (.iconst 5, 1) := by decide +kernel
theorem dX4_init_6 : decode cX4_init 6 = .ok (.anewarray 9, 3) := by decide +kernel
theorem dX4_init_9 : decode cX4_init 9 = .ok (.putfield 11, 3) := by decide +kernel
theorem dX4_init_12 : decode cX4_init 12 = .ok (.iconst 0, 1) := by decide +kernel
theorem dX4_init_13 : decode cX4_init 13 = .ok (.istore_n 1, 1) := by decide +kernel
theorem dX4_init_14 : decode cX4_init 14 = .ok (.iload_n 1, 1) := by decide +kernel
theorem dX4_init_15 : decode cX4_init 15 = .ok (.aload_n 0, 1) := by decide +kernel
theorem dX4_init_16 : decode cX4_init 16 = .ok (.getfield 11, 3) := by decide +kernel
theorem dX4_init_19 : decode cX4_init 19 = .ok (.arraylength, 1) := by decide +kernel
theorem dX4_init_20 : decode cX4_init 20 = .ok (.if_icmp .ge 22, 3) := by decide +kernel
theorem dX4_init_23 : decode cX4_init 23 = .ok (.aload_n 0, 1) := by decide +kernel
theorem dX4_init_24 : decode cX4_init 24 = .ok (.getfield 11, 3) := by decide +kernel
theorem dX4_init_27 : decode cX4_init 27 = .ok (.iload_n 1, 1) := by decide +kernel
theorem dX4_init_28 : decode cX4_init 28 = .ok (.new 9, 3) := by decide +kernel
theorem dX4_init_31 : decode cX4_init 31 = .ok (.dup, 1) := by decide +kernel
theorem dX4_init_32 : decode cX4_init 32 = .ok (.invokespecial 17, 3) := by decide +kernel
theorem dX4_init_35 : decode cX4_init 35 = .ok (.aastore, 1) := by decide +kernel
theorem dX4_init_36 : decode cX4_init 36 = .ok (.iinc 1 1, 3) := by decide +kernel
theorem dX4_init_39 : decode cX4_init 39 = .ok (.goto (-25), 3) := by decide +kernel
theorem dX4_init_42 : decode cX4_init 42 = .ok (.return_, 1) := by decide +kernel
theorem dX4_note_0 : decode cX4_note 0 = .ok (.aload_n 0, 1) := by decide +kernel
theorem dX4_note_1 : decode cX4_note 1 = .ok (.getfield 18, 3) := by decide +kernel
theorem dX4_note_4 : decode cX4_note 4 = .ok (.ifCond .lt 28, 3) := by decide +kernel
theorem dX4_note_7 : decode cX4_note 7 = .ok (.aload_n 0, 1) := by decide +kernel
theorem dX4_note_8 : decode cX4_note 8 = .ok (.getfield 18, 3) := by decide +kernel
theorem dX4_note_11 : decode cX4_note 11 = .ok (.aload_n 0, 1) := by decide +kernel
theorem dX4_note_12 : decode cX4_note 12 = .ok (.getfield 11, 3) := by decide +kernel
theorem dX4_note_15 : decode cX4_note 15 = .ok (.arraylength, 1) := by decide +kernel
theorem dX4_note_16 : decode cX4_note 16 = .ok (.if_icmp .ge 16, 3) := by decide +kernel
theorem dX4_note_19 : decode cX4_note 19 = .ok (.aload_n 0, 1) := by decide +kernel
theorem dX4_note_20 : decode cX4_note 20 = .ok (.getfield 11, 3) := by decide +kernel
theorem dX4_note_23 : decode cX4_note 23 = .ok (.aload_n 0, 1) := by decide +kernel
theorem dX4_note_24 : decode cX4_note 24 = .ok (.getfield 18, 3) := by decide +kernel
theorem dX4_note_27 : decode cX4_note 27 = .ok (.aaload, 1) := by decide +kernel
theorem dX4_note_28 : decode cX4_note 28 = .ok (.aload_n 1, 1) := by decide +kernel
theorem dX4_note_29 : decode cX4_note 29 = .ok (.invokevirtual 22, 3) := by decide +kernel
theorem dX4_note_32 : decode cX4_note 32 = .ok (.return_, 1) := by decide +kernel
theorem dX4_keep_0 : decode cX4_keep 0 = .ok (.aload_n 0, 1) := by decide +kernel
theorem dX4_keep_1 : decode cX4_keep 1 = .ok (.dup, 1) := by decide +kernel
theorem dX4_keep_2 : decode cX4_keep 2 = .ok (.getfield 18, 3) := by decide +kernel
theorem dX4_keep_5 : decode cX4_keep 5 = .ok (.iconst 1, 1) := by decide +kernel
theorem dX4_keep_6 : decode cX4_keep 6 = .ok (.iadd, 1) := by decide +kernel
theorem dX4_keep_7 : decode cX4_keep 7 = .ok (.putfield 18, 3) := by decide +kernel
theorem dX4_keep_10 : decode cX4_keep 10 = .ok (.aload_n 0, 1) := by decide +kernel
theorem dX4_keep_11 : decode cX4_keep 11 = .ok (.getfield 18, 3) := by decide +kernel
theorem dX4_keep_14 : decode cX4_keep 14 = .ok (.iconst 4, 1) := by decide +kernel
theorem dX4_keep_15 : decode cX4_keep 15 = .ok (.if_icmp .gt 4, 3) := by decide +kernel
theorem dX4_keep_18 : decode cX4_keep 18 = .ok (.return_, 1) := by decide +kernel
theorem dX4_keep_19 : decode cX4_keep 19 = .ok (.aload_n 0, 1) := by decide +kernel
theorem dX4_keep_20 : decode cX4_keep 20 = .ok (.iconst 4, 1) := by decide +kernel
theorem dX4_keep_21 : decode cX4_keep 21 = .ok (.putfield 18, 3) := by decide +kernel
theorem dX4_keep_24 : decode cX4_keep 24 = .ok (.aload_n 0, 1) := by decide +kernel
theorem dX4_keep_25 : decode cX4_keep 25 = .ok (.getfield 11, 3) := by decide +kernel
theorem dX4_keep_28 : decode cX4_keep 28 = .ok (.iconst 0, 1) := by decide +kernel
theorem dX4_keep_29 : decode cX4_keep 29 = .ok (.aaload, 1) := by decide +kernel
theorem dX4_keep_30 : decode cX4_keep 30 = .ok (.astore_n 1, 1) := by decide +kernel
theorem dX4_keep_31 : decode cX4_keep 31 = .ok (.iconst 1, 1) := by decide +kernel
theorem dX4_keep_32 : decode cX4_keep 32 = .ok (.istore_n 2, 1) := by decide +kernel
theorem dX4_keep_33 : decode cX4_keep 33 = .ok (.iload_n 2, 1) := by decide +kernel
theorem dX4_keep_34 : decode cX4_keep 34 = .ok (.aload_n 0, 1) := by decide +kernel
theorem dX4_keep_35 : decode cX4_keep 35 = .ok (.getfield 11, 3) := by decide +kernel
theorem dX4_keep_38 : decode cX4_keep 38 = .ok (.arraylength, 1) := by decide +kernel
theorem dX4_keep_39 : decode cX4_keep 39 = .ok (.if_icmp .ge 23, 3) := by decide +kernel
theorem dX4_keep_42 : decode cX4_keep 42 = .ok (.aload_n 0, 1) := by decide +kernel
theorem dX4_keep_43 : decode cX4_keep 43 = .ok (.getfield 11, 3) := by decide +kernel
theorem dX4_keep_46 : decode cX4_keep 46 = .ok (.iload_n 2, 1) := by decide +kernel
theorem dX4_keep_47 : decode cX4_keep 47 = .ok (.iconst 1, 1) := by decide +kernel
theorem dX4_keep_48 : decode cX4_keep 48 = .ok (.isub, 1) := by decide +kernel
theorem dX4_keep_49 : decode cX4_keep 49 = .ok (.aload_n 0, 1) := by decide +kernel
theorem dX4_keep_50 : decode cX4_keep 50 = .ok (.getfield 11, 3) := by decide +kernel
theorem dX4_keep_53 : decode cX4_keep 53 = .ok (.iload_n 2, 1) := by decide +kernel
theorem dX4_keep_54 : decode cX4_keep 54 = .ok (.aaload, 1) := by decide +kernel
theorem dX4_keep_55 : decode cX4_keep 55 = .ok (.aastore, 1) := by decide +kernel
theorem dX4_keep_56 : decode cX4_keep 56 = .ok (.iinc 2 1, 3) := by decide +kernel
theorem dX4_keep_59 : decode cX4_keep 59 = .ok (.goto (-26), 3) := by decide +kernel
theorem dX4_keep_62 : decode cX4_keep 62 = .ok (.aload_n 0, 1) := by decide +kernel
theorem dX4_keep_63 : decode cX4_keep 63 = .ok (.getfield 11, 3) := by decide +kernel
theorem dX4_keep_66 : decode cX4_keep 66 = .ok (.iconst 4, 1) := by decide +kernel
theorem dX4_keep_67 : decode cX4_keep 67 = .ok (.aload_n 1, 1) := by decide +kernel
theorem dX4_keep_68 : decode cX4_keep 68 = .ok (.aastore, 1) := by decide +kernel
theorem dX4_keep_69 : decode cX4_keep 69 = .ok (.return_, 1) := by decide +kernel
theorem dX5_init_0 : decode cX5_init 0 = .ok (.aload_n 0, 1) := by decide +kernel
theorem dX5_init_1 : decode cX5_init 1 = .ok (.invokespecial 3, 3) := by decide +kernel
theorem dX5_init_4 : decode cX5_init 4 = .ok (.aload_n 0, 1) := by decide +kernel
theorem dX5_init_5 : decode cX5_init 5 = .ok (.iconst 5, 1) := by decide +kernel
theorem dX5_init_6 : decode cX5_init 6 = .ok (.newarray .int, 2) := by decide +kernel
theorem dX5_init_8 : decode cX5_init 8 = .ok (.putfield 9, 3) := by decide +kernel
theorem dX5_init_11 : decode cX5_init 11 = .ok (.aload_n 0, 1) := by decide +kernel
theorem dX5_init_12 : decode cX5_init 12 = .ok (.aload_n 1, 1) := by decide +kernel
theorem dX5_init_13 : decode cX5_init 13 = .ok (.putfield 15, 3) := by decide +kernel
theorem dX5_init_16 : decode cX5_init 16 = .ok (.return_, 1) := by decide +kernel
theorem dX6_init_0 : decode cX6_init 0 = .ok (.aload_n 0, 1) := by decide +kernel
theorem dX6_init_1 : decode cX6_init 1 = .ok (.invokespecial 3, 3) := by decide +kernel
theorem dX6_init_4 : decode cX6_init 4 = .ok (.aload_n 0, 1) := by decide +kernel
theorem dX6_init_5 : decode cX6_init 5 = .ok (.bipush 60, 2) := by decide +kernel
theorem dX6_init_7 : decode cX6_init 7 = .ok (.newarray .char, 2) := by decide +kernel
theorem dX6_init_9 : decode cX6_init 9 = .ok (.putfield 9, 3) := by decide +kernel
theorem dX6_init_12 : decode cX6_init 12 = .ok (.return_, 1) := by decide +kernel
theorem dX7_init_0 : decode cX7_init 0 = .ok (.aload_n 0, 1) := by decide +kernel
theorem dX7_init_1 : decode cX7_init 1 = .ok (.invokespecial 3, 3) := by decide +kernel
theorem dX7_init_4 : decode cX7_init 4 = .ok (.aload_n 0, 1) := by decide +kernel
theorem dX7_init_5 : decode cX7_init 5 = .ok (.new 9, 3) := by decide +kernel
theorem dX7_init_8 : decode cX7_init 8 = .ok (.dup, 1) := by decide +kernel
theorem dX7_init_9 : decode cX7_init 9 = .ok (.invokespecial 11, 3) := by decide +kernel
theorem dX7_init_12 : decode cX7_init 12 = .ok (.putfield 12, 3) := by decide +kernel
theorem dX7_init_15 : decode cX7_init 15 = .ok (.aload_n 0, 1) := by decide +kernel
theorem dX7_init_16 : decode cX7_init 16 = .ok (.new 9, 3) := by decide +kernel
theorem dX7_init_19 : decode cX7_init 19 = .ok (.dup, 1) := by decide +kernel
theorem dX7_init_20 : decode cX7_init 20 = .ok (.invokespecial 11, 3) := by decide +kernel
theorem dX7_init_23 : decode cX7_init 23 = .ok (.putfield 16, 3) := by decide +kernel
theorem dX7_init_26 : decode cX7_init 26 = .ok (.aload_n 0, 1) := by decide +kernel
theorem dX7_init_27 : decode cX7_init 27 = .ok (.new 19, 3) := by decide +kernel
theorem dX7_init_30 : decode cX7_init 30 = .ok (.dup, 1) := by decide +kernel
theorem dX7_init_31 : decode cX7_init 31 = .ok (.invokespecial 21, 3) := by decide +kernel
theorem dX7_init_34 : decode cX7_init 34 = .ok (.putfield 22, 3) := by decide +kernel
theorem dX7_init_37 : decode cX7_init 37 = .ok (.aload_n 0, 1) := by decide +kernel
theorem dX7_init_38 : decode cX7_init 38 = .ok (.new 26, 3) := by decide +kernel
theorem dX7_init_41 : decode cX7_init 41 = .ok (.dup, 1) := by decide +kernel
theorem dX7_init_42 : decode cX7_init 42 = .ok (.invokespecial 28, 3) := by decide +kernel
theorem dX7_init_45 : decode cX7_init 45 = .ok (.putfield 29, 3) := by decide +kernel
theorem dX7_init_48 : decode cX7_init 48 = .ok (.aload_n 0, 1) := by decide +kernel
theorem dX7_init_49 : decode cX7_init 49 = .ok (.new 33, 3) := by decide +kernel
theorem dX7_init_52 : decode cX7_init 52 = .ok (.dup, 1) := by decide +kernel
theorem dX7_init_53 : decode cX7_init 53 = .ok (.aload_n 0, 1) := by decide +kernel
theorem dX7_init_54 : decode cX7_init 54 = .ok (.getfield 29, 3) := by decide +kernel
theorem dX7_init_57 : decode cX7_init 57 = .ok (.invokespecial 35, 3) := by decide +kernel
theorem dX7_init_60 : decode cX7_init 60 = .ok (.putfield 38, 3) := by decide +kernel
theorem dX7_init_63 : decode cX7_init 63 = .ok (.return_, 1) := by decide +kernel
theorem dX7_clock_0 : decode cX7_clock 0 = .ok (.aload_n 0, 1) := by decide +kernel
theorem dX7_clock_1 : decode cX7_clock 1 = .ok (.getfield 22, 3) := by decide +kernel
theorem dX7_clock_4 : decode cX7_clock 4 = .ok (.aload_n 0, 1) := by decide +kernel
theorem dX7_clock_5 : decode cX7_clock 5 = .ok (.getfield 12, 3) := by decide +kernel
theorem dX7_clock_8 : decode cX7_clock 8 = .ok (.invokevirtual 42, 3) := by decide +kernel
theorem dX7_clock_11 : decode cX7_clock 11 = .ok (.aload_n 0, 1) := by decide +kernel
theorem dX7_clock_12 : decode cX7_clock 12 = .ok (.aload_n 0, 1) := by decide +kernel
theorem dX7_clock_13 : decode cX7_clock 13 = .ok (.getfield 12, 3) := by decide +kernel
theorem dX7_clock_16 : decode cX7_clock 16 = .ok (.iload_n 1, 1) := by decide +kernel
theorem dX7_clock_17 : decode cX7_clock 17 = .ok (.iload_n 2, 1) := by decide +kernel
theorem dX7_clock_18 : decode cX7_clock 18 = .ok (.iload_n 3, 1) := by decide +kernel
theorem dX7_clock_19 : decode cX7_clock 19 = .ok (.iload 4, 2) := by decide +kernel
theorem dX7_clock_21 : decode cX7_clock 21 = .ok (.iload 5, 2) := by decide +kernel
theorem dX7_clock_23 : decode cX7_clock 23 = .ok (.invokevirtual 46, 3) := by decide +kernel
theorem dX7_clock_26 : decode cX7_clock 26 = .ok (.invokevirtual 50, 3) := by decide +kernel
theorem dX7_clock_29 : decode cX7_clock 29 = .ok (.ireturn, 1) := by decide +kernel
theorem dX7_wind_0 : decode cX7_wind 0 = .ok (.aload_n 0, 1) := by decide +kernel
theorem dX7_wind_1 : decode cX7_wind 1 = .ok (.getfield 22, 3) := by decide +kernel
theorem dX7_wind_4 : decode cX7_wind 4 = .ok (.aload_n 0, 1) := by decide +kernel
theorem dX7_wind_5 : decode cX7_wind 5 = .ok (.getfield 12, 3) := by decide +kernel
theorem dX7_wind_8 : decode cX7_wind 8 = .ok (.invokevirtual 42, 3) := by decide +kernel
theorem dX7_wind_11 : decode cX7_wind 11 = .ok (.aload_n 0, 1) := by decide +kernel
theorem dX7_wind_12 : decode cX7_wind 12 = .ok (.aload_n 0, 1) := by decide +kernel
theorem dX7_wind_13 : decode cX7_wind 13 = .ok (.getfield 12, 3) := by decide +kernel
theorem dX7_wind_16 : decode cX7_wind 16 = .ok (.iload_n 1, 1) := by decide +kernel
theorem dX7_wind_17 : decode cX7_wind 17 = .ok (.invokevirtual 54, 3) := by decide +kernel
theorem dX7_wind_20 : decode cX7_wind 20 = .ok (.invokevirtual 50, 3) := by decide +kernel
theorem dX7_wind_23 : decode cX7_wind 23 = .ok (.ireturn, 1) := by decide +kernel
theorem dX7_tick_0 : decode cX7_tick 0 = .ok (.aload_n 0, 1) := by decide +kernel
theorem dX7_tick_1 : decode cX7_tick 1 = .ok (.getfield 22, 3) := by decide +kernel
theorem dX7_tick_4 : decode cX7_tick 4 = .ok (.aload_n 0, 1) := by decide +kernel
theorem dX7_tick_5 : decode cX7_tick 5 = .ok (.getfield 12, 3) := by decide +kernel
theorem dX7_tick_8 : decode cX7_tick 8 = .ok (.invokevirtual 42, 3) := by decide +kernel
theorem dX7_tick_11 : decode cX7_tick 11 = .ok (.aload_n 0, 1) := by decide +kernel
theorem dX7_tick_12 : decode cX7_tick 12 = .ok (.aload_n 0, 1) := by decide +kernel
theorem dX7_tick_13 : decode cX7_tick 13 = .ok (.getfield 12, 3) := by decide +kernel
theorem dX7_tick_16 : decode cX7_tick 16 = .ok (.iload_n 1, 1) := by decide +kernel
theorem dX7_tick_17 : decode cX7_tick 17 = .ok (.invokevirtual 57, 3) := by decide +kernel
theorem dX7_tick_20 : decode cX7_tick 20 = .ok (.invokevirtual 50, 3) := by decide +kernel
theorem dX7_tick_23 : decode cX7_tick 23 = .ok (.ireturn, 1) := by decide +kernel
theorem dX7_passenger_0 : decode cX7_passenger 0 = .ok (.aload_n 0, 1) := by decide +kernel
theorem dX7_passenger_1 : decode cX7_passenger 1 = .ok (.getfield 22, 3) := by decide +kernel
theorem dX7_passenger_4 : decode cX7_passenger 4 = .ok (.aload_n 0, 1) := by decide +kernel
theorem dX7_passenger_5 : decode cX7_passenger 5 = .ok (.getfield 12, 3) := by decide +kernel
theorem dX7_passenger_8 : decode cX7_passenger 8 = .ok (.invokevirtual 42, 3) := by decide +kernel
theorem dX7_passenger_11 : decode cX7_passenger 11 = .ok (.aload_n 0, 1) := by decide +kernel
theorem dX7_passenger_12 : decode cX7_passenger 12 = .ok (.aload_n 0, 1) := by decide +kernel
theorem dX7_passenger_13 : decode cX7_passenger 13 = .ok (.getfield 12, 3) := by decide +kernel
theorem dX7_passenger_16 : decode cX7_passenger 16 = .ok (.iload_n 1, 1) := by decide +kernel
theorem dX7_passenger_17 : decode cX7_passenger 17 = .ok (.invokevirtual 60, 3) := by decide +kernel
theorem dX7_passenger_20 : decode cX7_passenger 20 = .ok (.invokevirtual 50, 3) := by decide +kernel
theorem dX7_passenger_23 : decode cX7_passenger 23 = .ok (.ireturn, 1) := by decide +kernel
theorem dX7_group_0 : decode cX7_group 0 = .ok (.aload_n 0, 1) := by decide +kernel
theorem dX7_group_1 : decode cX7_group 1 = .ok (.getfield 22, 3) := by decide +kernel
theorem dX7_group_4 : decode cX7_group 4 = .ok (.aload_n 0, 1) := by decide +kernel
theorem dX7_group_5 : decode cX7_group 5 = .ok (.getfield 12, 3) := by decide +kernel
theorem dX7_group_8 : decode cX7_group 8 = .ok (.invokevirtual 42, 3) := by decide +kernel
theorem dX7_group_11 : decode cX7_group 11 = .ok (.aload_n 0, 1) := by decide +kernel
theorem dX7_group_12 : decode cX7_group 12 = .ok (.aload_n 0, 1) := by decide +kernel
theorem dX7_group_13 : decode cX7_group 13 = .ok (.getfield 12, 3) := by decide +kernel
theorem dX7_group_16 : decode cX7_group 16 = .ok (.iload_n 1, 1) := by decide +kernel
theorem dX7_group_17 : decode cX7_group 17 = .ok (.invokevirtual 63, 3) := by decide +kernel
theorem dX7_group_20 : decode cX7_group 20 = .ok (.invokevirtual 50, 3) := by decide +kernel
theorem dX7_group_23 : decode cX7_group 23 = .ok (.ireturn, 1) := by decide +kernel
theorem dX7_join_0 : decode cX7_join 0 = .ok (.aload_n 0, 1) := by decide +kernel
theorem dX7_join_1 : decode cX7_join 1 = .ok (.getfield 22, 3) := by decide +kernel
theorem dX7_join_4 : decode cX7_join 4 = .ok (.aload_n 0, 1) := by decide +kernel
theorem dX7_join_5 : decode cX7_join 5 = .ok (.getfield 12, 3) := by decide +kernel
theorem dX7_join_8 : decode cX7_join 8 = .ok (.invokevirtual 42, 3) := by decide +kernel
theorem dX7_join_11 : decode cX7_join 11 = .ok (.aload_n 0, 1) := by decide +kernel
theorem dX7_join_12 : decode cX7_join 12 = .ok (.aload_n 0, 1) := by decide +kernel
theorem dX7_join_13 : decode cX7_join 13 = .ok (.getfield 12, 3) := by decide +kernel
theorem dX7_join_16 : decode cX7_join 16 = .ok (.iload_n 1, 1) := by decide +kernel
theorem dX7_join_17 : decode cX7_join 17 = .ok (.iload_n 2, 1) := by decide +kernel
theorem dX7_join_18 : decode cX7_join 18 = .ok (.invokevirtual 66, 3) := by decide +kernel
theorem dX7_join_21 : decode cX7_join 21 = .ok (.invokevirtual 50, 3) := by decide +kernel
theorem dX7_join_24 : decode cX7_join 24 = .ok (.ireturn, 1) := by decide +kernel
theorem dX7_leave_0 : decode cX7_leave 0 = .ok (.aload_n 0, 1) := by decide +kernel
theorem dX7_leave_1 : decode cX7_leave 1 = .ok (.getfield 22, 3) := by decide +kernel
theorem dX7_leave_4 : decode cX7_leave 4 = .ok (.aload_n 0, 1) := by decide +kernel
theorem dX7_leave_5 : decode cX7_leave 5 = .ok (.getfield 12, 3) := by decide +kernel
theorem dX7_leave_8 : decode cX7_leave 8 = .ok (.invokevirtual 42, 3) := by decide +kernel
theorem dX7_leave_11 : decode cX7_leave 11 = .ok (.aload_n 0, 1) := by decide +kernel
theorem dX7_leave_12 : decode cX7_leave 12 = .ok (.aload_n 0, 1) := by decide +kernel
theorem dX7_leave_13 : decode cX7_leave 13 = .ok (.getfield 12, 3) := by decide +kernel
theorem dX7_leave_16 : decode cX7_leave 16 = .ok (.iload_n 1, 1) := by decide +kernel
theorem dX7_leave_17 : decode cX7_leave 17 = .ok (.iload_n 2, 1) := by decide +kernel
theorem dX7_leave_18 : decode cX7_leave 18 = .ok (.invokevirtual 70, 3) := by decide +kernel
theorem dX7_leave_21 : decode cX7_leave 21 = .ok (.invokevirtual 50, 3) := by decide +kernel
theorem dX7_leave_24 : decode cX7_leave 24 = .ok (.ireturn, 1) := by decide +kernel
theorem dX7_clockOf_0 : decode cX7_clockOf 0 = .ok (.aload_n 0, 1) := by decide +kernel
theorem dX7_clockOf_1 : decode cX7_clockOf 1 = .ok (.getfield 12, 3) := by decide +kernel
theorem dX7_clockOf_4 : decode cX7_clockOf 4 = .ok (.iload_n 1, 1) := by decide +kernel
theorem dX7_clockOf_5 : decode cX7_clockOf 5 = .ok (.invokevirtual 73, 3) := by decide +kernel
theorem dX7_clockOf_8 : decode cX7_clockOf 8 = .ok (.astore_n 3, 1) := by decide +kernel
theorem dX7_clockOf_9 : decode cX7_clockOf 9 = .ok (.aload_n 3, 1) := by decide +kernel
theorem dX7_clockOf_10 : decode cX7_clockOf 10 = .ok (.ifnull 13, 3) := by decide +kernel
theorem dX7_clockOf_13 : decode cX7_clockOf 13 = .ok (.iload_n 2, 1) := by decide +kernel
theorem dX7_clockOf_14 : decode cX7_clockOf 14 = .ok (.ifCond .lt 9, 3) := by decide +kernel
theorem dX7_clockOf_17 : decode cX7_clockOf 17 = .ok (.iload_n 2, 1) := by decide +kernel
theorem dX7_clockOf_18 : decode cX7_clockOf 18 = .ok (.bipush 13, 2) := by decide +kernel
theorem dX7_clockOf_20 : decode cX7_clockOf 20 = .ok (.if_icmp .le 6, 3) := by decide +kernel
theorem dX7_clockOf_23 : decode cX7_clockOf 23 = .ok (.ldc 77, 2) := by decide +kernel
theorem dX7_clockOf_25 : decode cX7_clockOf 25 = .ok (.ireturn, 1) := by decide +kernel
theorem dX7_clockOf_26 : decode cX7_clockOf 26 = .ok (.aload_n 3, 1) := by decide +kernel
theorem dX7_clockOf_27 : decode cX7_clockOf 27 = .ok (.iload_n 2, 1) := by decide +kernel
theorem dX7_clockOf_28 : decode cX7_clockOf 28 = .ok (.invokevirtual 78, 3) := by decide +kernel
theorem dX7_clockOf_31 : decode cX7_clockOf 31 = .ok (.ireturn, 1) := by decide +kernel
theorem dX7_groupOf_0 : decode cX7_groupOf 0 = .ok (.aload_n 0, 1) := by decide +kernel
theorem dX7_groupOf_1 : decode cX7_groupOf 1 = .ok (.getfield 12, 3) := by decide +kernel
theorem dX7_groupOf_4 : decode cX7_groupOf 4 = .ok (.iload_n 1, 1) := by decide +kernel
theorem dX7_groupOf_5 : decode cX7_groupOf 5 = .ok (.invokevirtual 108, 3) := by decide +kernel
theorem dX7_groupOf_8 : decode cX7_groupOf 8 = .ok (.astore_n 3, 1) := by decide +kernel
theorem dX7_groupOf_9 : decode cX7_groupOf 9 = .ok (.aload_n 3, 1) := by decide +kernel
theorem dX7_groupOf_10 : decode cX7_groupOf 10 = .ok (.ifnull 12, 3) := by decide +kernel
theorem dX7_groupOf_13 : decode cX7_groupOf 13 = .ok (.iload_n 2, 1) := by decide +kernel
theorem dX7_groupOf_14 : decode cX7_groupOf 14 = .ok (.ifCond .lt 8, 3) := by decide +kernel
theorem dX7_groupOf_17 : decode cX7_groupOf 17 = .ok (.iload_n 2, 1) := by decide +kernel
theorem dX7_groupOf_18 : decode cX7_groupOf 18 = .ok (.iconst 5, 1) := by decide +kernel
theorem dX7_groupOf_19 : decode cX7_groupOf 19 = .ok (.if_icmp .le 6, 3) := by decide +kernel
theorem dX7_groupOf_22 : decode cX7_groupOf 22 = .ok (.ldc 77, 2) := by decide +kernel
theorem dX7_groupOf_24 : decode cX7_groupOf 24 = .ok (.ireturn, 1) := by decide +kernel
theorem dX7_groupOf_25 : decode cX7_groupOf 25 = .ok (.iload_n 2, 1) := by decide +kernel
theorem dX7_groupOf_26 : decode cX7_groupOf 26 = .ok (.tableswitch 66 0 4 #[34, 39, 44, 56, 61], 34) := by decide +kernel
theorem dX7_groupOf_60 : decode cX7_groupOf 60 = .ok (.aload_n 3, 1) := by decide +kernel
theorem dX7_groupOf_61 : decode cX7_groupOf 61 = .ok (.getfield 112, 3) := by decide +kernel
theorem dX7_groupOf_64 : decode cX7_groupOf 64 = .ok (.ireturn, 1) := by decide +kernel
theorem dX7_groupOf_65 : decode cX7_groupOf 65 = .ok (.aload_n 3, 1) := by decide +kernel
theorem dX7_groupOf_66 : decode cX7_groupOf 66 = .ok (.getfield 117, 3) := by decide +kernel
theorem dX7_groupOf_69 : decode cX7_groupOf 69 = .ok (.ireturn, 1) := by decide +kernel
theorem dX7_groupOf_70 : decode cX7_groupOf 70 = .ok (.aload_n 0, 1) := by decide +kernel
theorem dX7_groupOf_71 : decode cX7_groupOf 71 = .ok (.getfield 12, 3) := by decide +kernel
theorem dX7_groupOf_74 : decode cX7_groupOf 74 = .ok (.aload_n 3, 1) := by decide +kernel
theorem dX7_groupOf_75 : decode cX7_groupOf 75 = .ok (.getfield 117, 3) := by decide +kernel
theorem dX7_groupOf_78 : decode cX7_groupOf 78 = .ok (.invokevirtual 120, 3) := by decide +kernel
theorem dX7_groupOf_81 : decode cX7_groupOf 81 = .ok (.ireturn, 1) := by decide +kernel
theorem dX7_groupOf_82 : decode cX7_groupOf 82 = .ok (.aload_n 3, 1) := by decide +kernel
theorem dX7_groupOf_83 : decode cX7_groupOf 83 = .ok (.getfield 123, 3) := by decide +kernel
theorem dX7_groupOf_86 : decode cX7_groupOf 86 = .ok (.ireturn, 1) := by decide +kernel
theorem dX7_groupOf_87 : decode cX7_groupOf 87 = .ok (.aload_n 3, 1) := by decide +kernel
theorem dX7_groupOf_88 : decode cX7_groupOf 88 = .ok (.getfield 125, 3) := by decide +kernel
theorem dX7_groupOf_91 : decode cX7_groupOf 91 = .ok (.ireturn, 1) := by decide +kernel
theorem dX7_groupOf_92 : decode cX7_groupOf 92 = .ok (.aload_n 0, 1) := by decide +kernel
theorem dX7_groupOf_93 : decode cX7_groupOf 93 = .ok (.getfield 12, 3) := by decide +kernel
theorem dX7_groupOf_96 : decode cX7_groupOf 96 = .ok (.aload_n 3, 1) := by decide +kernel
theorem dX7_groupOf_97 : decode cX7_groupOf 97 = .ok (.getfield 117, 3) := by decide +kernel
theorem dX7_groupOf_100 : decode cX7_groupOf 100 = .ok (.bipush 9, 2) := by decide +kernel
theorem dX7_groupOf_102 : decode cX7_groupOf 102 = .ok (.invokevirtual 128, 3) := by decide +kernel
theorem dX7_groupOf_105 : decode cX7_groupOf 105 = .ok (.ireturn, 1) := by decide +kernel
theorem dX7_next_0 : decode cX7_next 0 = .ok (.iload_n 1, 1) := by decide +kernel
theorem dX7_next_1 : decode cX7_next 1 = .ok (.ifCond .ge 6, 3) := by decide +kernel
theorem dX7_next_4 : decode cX7_next 4 = .ok (.ldc 77, 2) := by decide +kernel
theorem dX7_next_6 : decode cX7_next 6 = .ok (.ireturn, 1) := by decide +kernel
theorem dX7_next_7 : decode cX7_next 7 = .ok (.aload_n 0, 1) := by decide +kernel
theorem dX7_next_8 : decode cX7_next 8 = .ok (.getfield 12, 3) := by decide +kernel
theorem dX7_next_11 : decode cX7_next 11 = .ok (.iload_n 1, 1) := by decide +kernel
theorem dX7_next_12 : decode cX7_next 12 = .ok (.invokevirtual 131, 3) := by decide +kernel
theorem dX7_next_15 : decode cX7_next 15 = .ok (.ireturn, 1) := by decide +kernel
theorem dX7_count_0 : decode cX7_count 0 = .ok (.iload_n 1, 1) := by decide +kernel
theorem dX7_count_1 : decode cX7_count 1 = .ok (.tableswitch 159 0 10 #[59, 67, 75, 83, 91, 103, 115, 127, 135, 143, 151], 59) := by decide +kernel
theorem dX7_count_60 : decode cX7_count 60 = .ok (.aload_n 0, 1) := by decide +kernel
theorem dX7_count_61 : decode cX7_count 61 = .ok (.getfield 12, 3) := by decide +kernel
theorem dX7_count_64 : decode cX7_count 64 = .ok (.getfield 155, 3) := by decide +kernel
theorem dX7_count_67 : decode cX7_count 67 = .ok (.ireturn, 1) := by decide +kernel
theorem dX7_count_68 : decode cX7_count 68 = .ok (.aload_n 0, 1) := by decide +kernel
theorem dX7_count_69 : decode cX7_count 69 = .ok (.getfield 12, 3) := by decide +kernel
theorem dX7_count_72 : decode cX7_count 72 = .ok (.getfield 158, 3) := by decide +kernel
theorem dX7_count_75 : decode cX7_count 75 = .ok (.ireturn, 1) := by decide +kernel
theorem dX7_count_76 : decode cX7_count 76 = .ok (.aload_n 0, 1) := by decide +kernel
theorem dX7_count_77 : decode cX7_count 77 = .ok (.getfield 12, 3) := by decide +kernel
theorem dX7_count_80 : decode cX7_count 80 = .ok (.getfield 161, 3) := by decide +kernel
theorem dX7_count_83 : decode cX7_count 83 = .ok (.ireturn, 1) := by decide +kernel
theorem dX7_count_84 : decode cX7_count 84 = .ok (.aload_n 0, 1) := by decide +kernel
theorem dX7_count_85 : decode cX7_count 85 = .ok (.getfield 12, 3) := by decide +kernel
theorem dX7_count_88 : decode cX7_count 88 = .ok (.getfield 164, 3) := by decide +kernel
theorem dX7_count_91 : decode cX7_count 91 = .ok (.ireturn, 1) := by decide +kernel
theorem dX7_count_92 : decode cX7_count 92 = .ok (.aload_n 0, 1) := by decide +kernel
theorem dX7_count_93 : decode cX7_count 93 = .ok (.getfield 12, 3) := by decide +kernel
theorem dX7_count_96 : decode cX7_count 96 = .ok (.bipush 63, 2) := by decide +kernel
theorem dX7_count_98 : decode cX7_count 98 = .ok (.bipush 8, 2) := by decide +kernel
theorem dX7_count_100 : decode cX7_count 100 = .ok (.invokevirtual 128, 3) := by decide +kernel
theorem dX7_count_103 : decode cX7_count 103 = .ok (.ireturn, 1) := by decide +kernel
theorem dX7_count_104 : decode cX7_count 104 = .ok (.aload_n 0, 1) := by decide +kernel
theorem dX7_count_105 : decode cX7_count 105 = .ok (.getfield 12, 3) := by decide +kernel
theorem dX7_count_108 : decode cX7_count 108 = .ok (.bipush 63, 2) := by decide +kernel
theorem dX7_count_110 : decode cX7_count 110 = .ok (.bipush 11, 2) := by decide +kernel
theorem dX7_count_112 : decode cX7_count 112 = .ok (.invokevirtual 128, 3) := by decide +kernel
theorem dX7_count_115 : decode cX7_count 115 = .ok (.ireturn, 1) := by decide +kernel
theorem dX7_count_116 : decode cX7_count 116 = .ok (.aload_n 0, 1) := by decide +kernel
theorem dX7_count_117 : decode cX7_count 117 = .ok (.getfield 12, 3) := by decide +kernel
theorem dX7_count_120 : decode cX7_count 120 = .ok (.bipush 63, 2) := by decide +kernel
theorem dX7_count_122 : decode cX7_count 122 = .ok (.bipush 12, 2) := by decide +kernel
theorem dX7_count_124 : decode cX7_count 124 = .ok (.invokevirtual 128, 3) := by decide +kernel
theorem dX7_count_127 : decode cX7_count 127 = .ok (.ireturn, 1) := by decide +kernel
theorem dX7_count_128 : decode cX7_count 128 = .ok (.aload_n 0, 1) := by decide +kernel
theorem dX7_count_129 : decode cX7_count 129 = .ok (.getfield 12, 3) := by decide +kernel
theorem dX7_count_132 : decode cX7_count 132 = .ok (.invokevirtual 167, 3) := by decide +kernel
theorem dX7_count_135 : decode cX7_count 135 = .ok (.ireturn, 1) := by decide +kernel
theorem dX7_count_136 : decode cX7_count 136 = .ok (.aload_n 0, 1) := by decide +kernel
theorem dX7_count_137 : decode cX7_count 137 = .ok (.getfield 12, 3) := by decide +kernel
theorem dX7_count_140 : decode cX7_count 140 = .ok (.invokevirtual 170, 3) := by decide +kernel
theorem dX7_count_143 : decode cX7_count 143 = .ok (.ireturn, 1) := by decide +kernel
theorem dX7_count_144 : decode cX7_count 144 = .ok (.aload_n 0, 1) := by decide +kernel
theorem dX7_count_145 : decode cX7_count 145 = .ok (.getfield 22, 3) := by decide +kernel
theorem dX7_count_148 : decode cX7_count 148 = .ok (.getfield 173, 3) := by decide +kernel
theorem dX7_count_151 : decode cX7_count 151 = .ok (.ireturn, 1) := by decide +kernel
theorem dX7_count_152 : decode cX7_count 152 = .ok (.aload_n 0, 1) := by decide +kernel
theorem dX7_count_153 : decode cX7_count 153 = .ok (.getfield 29, 3) := by decide +kernel
theorem dX7_count_156 : decode cX7_count 156 = .ok (.getfield 176, 3) := by decide +kernel
theorem dX7_count_159 : decode cX7_count 159 = .ok (.ireturn, 1) := by decide +kernel
theorem dX7_count_160 : decode cX7_count 160 = .ok (.ldc 77, 2) := by decide +kernel
theorem dX7_count_162 : decode cX7_count 162 = .ok (.ireturn, 1) := by decide +kernel
theorem dX7_settle_0 : decode cX7_settle 0 = .ok (.iload_n 1, 1) := by decide +kernel
theorem dX7_settle_1 : decode cX7_settle 1 = .ok (.ifCond .lt 10, 3) := by decide +kernel
theorem dX7_settle_4 : decode cX7_settle 4 = .ok (.aload_n 0, 1) := by decide +kernel
theorem dX7_settle_5 : decode cX7_settle 5 = .ok (.getfield 22, 3) := by decide +kernel
theorem dX7_settle_8 : decode cX7_settle 8 = .ok (.invokevirtual 203, 3) := by decide +kernel
theorem dX7_settle_11 : decode cX7_settle 11 = .ok (.iload_n 1, 1) := by decide +kernel
theorem dX7_settle_12 : decode cX7_settle 12 = .ok (.ireturn, 1) := by decide +kernel
theorem dX7_isLaw_0 : decode cX7_isLaw 0 = .ok (.iload_n 0, 1) := by decide +kernel
theorem dX7_isLaw_1 : decode cX7_isLaw 1 = .ok (.ifCond .lt 12, 3) := by decide +kernel
theorem dX7_isLaw_4 : decode cX7_isLaw 4 = .ok (.iload_n 0, 1) := by decide +kernel
theorem dX7_isLaw_5 : decode cX7_isLaw 5 = .ok (.iconst 2, 1) := by decide +kernel
theorem dX7_isLaw_6 : decode cX7_isLaw 6 = .ok (.if_icmp .gt 7, 3) := by decide +kernel
theorem dX7_isLaw_9 : decode cX7_isLaw 9 = .ok (.iconst 1, 1) := by decide +kernel
theorem dX7_isLaw_10 : decode cX7_isLaw 10 = .ok (.goto 4, 3) := by decide +kernel
theorem dX7_isLaw_13 : decode cX7_isLaw 13 = .ok (.iconst 0, 1) := by decide +kernel
theorem dX7_isLaw_14 : decode cX7_isLaw 14 = .ok (.ireturn, 1) := by decide +kernel
theorem dX7_isGap_0 : decode cX7_isGap 0 = .ok (.iload_n 0, 1) := by decide +kernel
theorem dX7_isGap_1 : decode cX7_isGap 1 = .ok (.iconst 1, 1) := by decide +kernel
theorem dX7_isGap_2 : decode cX7_isGap 2 = .ok (.if_icmp .lt 13, 3) := by decide +kernel
theorem dX7_isGap_5 : decode cX7_isGap 5 = .ok (.iload_n 0, 1) := by decide +kernel
theorem dX7_isGap_6 : decode cX7_isGap 6 = .ok (.bipush 50, 2) := by decide +kernel
theorem dX7_isGap_8 : decode cX7_isGap 8 = .ok (.if_icmp .gt 7, 3) := by decide +kernel
theorem dX7_isGap_11 : decode cX7_isGap 11 = .ok (.iconst 1, 1) := by decide +kernel
theorem dX7_isGap_12 : decode cX7_isGap 12 = .ok (.goto 4, 3) := by decide +kernel
theorem dX7_isGap_15 : decode cX7_isGap 15 = .ok (.iconst 0, 1) := by decide +kernel
theorem dX7_isGap_16 : decode cX7_isGap 16 = .ok (.ireturn, 1) := by decide +kernel
theorem dX7_isClock_0 : decode cX7_isClock 0 = .ok (.iload_n 0, 1) := by decide +kernel
theorem dX7_isClock_1 : decode cX7_isClock 1 = .ok (.invokestatic 212, 3) := by decide +kernel
theorem dX7_isClock_4 : decode cX7_isClock 4 = .ok (.ifCond .eq 10, 3) := by decide +kernel
theorem dX7_isClock_7 : decode cX7_isClock 7 = .ok (.iload_n 1, 1) := by decide +kernel
theorem dX7_isClock_8 : decode cX7_isClock 8 = .ok (.invokestatic 216, 3) := by decide +kernel
theorem dX7_isClock_11 : decode cX7_isClock 11 = .ok (.ifCond .ne 5, 3) := by decide +kernel
theorem dX7_isClock_14 : decode cX7_isClock 14 = .ok (.iconst 0, 1) := by decide +kernel
theorem dX7_isClock_15 : decode cX7_isClock 15 = .ok (.ireturn, 1) := by decide +kernel
theorem dX7_isClock_16 : decode cX7_isClock 16 = .ok (.iload_n 0, 1) := by decide +kernel
theorem dX7_isClock_17 : decode cX7_isClock 17 = .ok (.iconst 2, 1) := by decide +kernel
theorem dX7_isClock_18 : decode cX7_isClock 18 = .ok (.if_icmp .ne 28, 3) := by decide +kernel
theorem dX7_isClock_21 : decode cX7_isClock 21 = .ok (.iload_n 2, 1) := by decide +kernel
theorem dX7_isClock_22 : decode cX7_isClock 22 = .ok (.invokestatic 216, 3) := by decide +kernel
theorem dX7_isClock_25 : decode cX7_isClock 25 = .ok (.ifCond .eq 19, 3) := by decide +kernel
theorem dX7_isClock_28 : decode cX7_isClock 28 = .ok (.iload_n 3, 1) := by decide +kernel
theorem dX7_isClock_29 : decode cX7_isClock 29 = .ok (.invokestatic 216, 3) := by decide +kernel
theorem dX7_isClock_32 : decode cX7_isClock 32 = .ok (.ifCond .eq 12, 3) := by decide +kernel
theorem dX7_isClock_35 : decode cX7_isClock 35 = .ok (.iload 4, 2) := by decide +kernel
theorem dX7_isClock_37 : decode cX7_isClock 37 = .ok (.ifCond .ne 7, 3) := by decide +kernel
theorem dX7_isClock_40 : decode cX7_isClock 40 = .ok (.iconst 1, 1) := by decide +kernel
theorem dX7_isClock_41 : decode cX7_isClock 41 = .ok (.goto 4, 3) := by decide +kernel
theorem dX7_isClock_44 : decode cX7_isClock 44 = .ok (.iconst 0, 1) := by decide +kernel
theorem dX7_isClock_45 : decode cX7_isClock 45 = .ok (.ireturn, 1) := by decide +kernel
theorem dX7_isClock_46 : decode cX7_isClock 46 = .ok (.iload_n 1, 1) := by decide +kernel
theorem dX7_isClock_47 : decode cX7_isClock 47 = .ok (.iload_n 2, 1) := by decide +kernel
theorem dX7_isClock_48 : decode cX7_isClock 48 = .ok (.invokestatic 219, 3) := by decide +kernel
theorem dX7_isClock_51 : decode cX7_isClock 51 = .ok (.ifCond .eq 24, 3) := by decide +kernel
theorem dX7_isClock_54 : decode cX7_isClock 54 = .ok (.iload_n 2, 1) := by decide +kernel
theorem dX7_isClock_55 : decode cX7_isClock 55 = .ok (.iload_n 3, 1) := by decide +kernel
theorem dX7_isClock_56 : decode cX7_isClock 56 = .ok (.invokestatic 219, 3) := by decide +kernel
theorem dX7_isClock_59 : decode cX7_isClock 59 = .ok (.ifCond .eq 16, 3) := by decide +kernel
theorem dX7_isClock_62 : decode cX7_isClock 62 = .ok (.iload_n 3, 1) := by decide +kernel
theorem dX7_isClock_63 : decode cX7_isClock 63 = .ok (.iload 4, 2) := by decide +kernel
theorem dX7_isClock_65 : decode cX7_isClock 65 = .ok (.invokestatic 219, 3) := by decide +kernel
theorem dX7_isClock_68 : decode cX7_isClock 68 = .ok (.ifCond .eq 7, 3) := by decide +kernel
theorem dX7_isClock_71 : decode cX7_isClock 71 = .ok (.iconst 1, 1) := by decide +kernel
theorem dX7_isClock_72 : decode cX7_isClock 72 = .ok (.goto 4, 3) := by decide +kernel
theorem dX7_isClock_75 : decode cX7_isClock 75 = .ok (.iconst 0, 1) := by decide +kernel
theorem dX7_isClock_76 : decode cX7_isClock 76 = .ok (.ireturn, 1) := by decide +kernel
theorem dX7_mayFollow_0 : decode cX7_mayFollow 0 = .ok (.iload_n 1, 1) := by decide +kernel
theorem dX7_mayFollow_1 : decode cX7_mayFollow 1 = .ok (.ifCond .eq 14, 3) := by decide +kernel
theorem dX7_mayFollow_4 : decode cX7_mayFollow 4 = .ok (.iload_n 0, 1) := by decide +kernel
theorem dX7_mayFollow_5 : decode cX7_mayFollow 5 = .ok (.ifCond .eq 14, 3) := by decide +kernel
theorem dX7_mayFollow_8 : decode cX7_mayFollow 8 = .ok (.iload_n 1, 1) := by decide +kernel
theorem dX7_mayFollow_9 : decode cX7_mayFollow 9 = .ok (.invokestatic 216, 3) := by decide +kernel
theorem dX7_mayFollow_12 : decode cX7_mayFollow 12 = .ok (.ifCond .eq 7, 3) := by decide +kernel
theorem dX7_mayFollow_15 : decode cX7_mayFollow 15 = .ok (.iconst 1, 1) := by decide +kernel
theorem dX7_mayFollow_16 : decode cX7_mayFollow 16 = .ok (.goto 4, 3) := by decide +kernel
theorem dX7_mayFollow_19 : decode cX7_mayFollow 19 = .ok (.iconst 0, 1) := by decide +kernel
theorem dX7_mayFollow_20 : decode cX7_mayFollow 20 = .ok (.ireturn, 1) := by decide +kernel
theorem dJ6_bitCount_0f7a4_0 : decode cJ6_bitCount_0f7a4 0 = .ok (.iload_n 0, 1) := by decide +kernel
theorem dJ6_bitCount_0f7a4_1 : decode cJ6_bitCount_0f7a4 1 = .ok (.iload_n 0, 1) := by decide +kernel
theorem dJ6_bitCount_0f7a4_2 : decode cJ6_bitCount_0f7a4 2 = .ok (.iconst 1, 1) := by decide +kernel
theorem dJ6_bitCount_0f7a4_3 : decode cJ6_bitCount_0f7a4 3 = .ok (.iushr, 1) := by decide +kernel
theorem dJ6_bitCount_0f7a4_4 : decode cJ6_bitCount_0f7a4 4 = .ok (.ldc_w 265, 3) := by decide +kernel
theorem dJ6_bitCount_0f7a4_7 : decode cJ6_bitCount_0f7a4 7 = .ok (.iand, 1) := by decide +kernel
theorem dJ6_bitCount_0f7a4_8 : decode cJ6_bitCount_0f7a4 8 = .ok (.isub, 1) := by decide +kernel
theorem dJ6_bitCount_0f7a4_9 : decode cJ6_bitCount_0f7a4 9 = .ok (.istore_n 0, 1) := by decide +kernel
theorem dJ6_bitCount_0f7a4_10 : decode cJ6_bitCount_0f7a4 10 = .ok (.iload_n 0, 1) := by decide +kernel
theorem dJ6_bitCount_0f7a4_11 : decode cJ6_bitCount_0f7a4 11 = .ok (.ldc_w 266, 3) := by decide +kernel
theorem dJ6_bitCount_0f7a4_14 : decode cJ6_bitCount_0f7a4 14 = .ok (.iand, 1) := by decide +kernel
theorem dJ6_bitCount_0f7a4_15 : decode cJ6_bitCount_0f7a4 15 = .ok (.iload_n 0, 1) := by decide +kernel
theorem dJ6_bitCount_0f7a4_16 : decode cJ6_bitCount_0f7a4 16 = .ok (.iconst 2, 1) := by decide +kernel
theorem dJ6_bitCount_0f7a4_17 : decode cJ6_bitCount_0f7a4 17 = .ok (.iushr, 1) := by decide +kernel
theorem dJ6_bitCount_0f7a4_18 : decode cJ6_bitCount_0f7a4 18 = .ok (.ldc_w 266, 3) := by decide +kernel
theorem dJ6_bitCount_0f7a4_21 : decode cJ6_bitCount_0f7a4 21 = .ok (.iand, 1) := by decide +kernel
theorem dJ6_bitCount_0f7a4_22 : decode cJ6_bitCount_0f7a4 22 = .ok (.iadd, 1) := by decide +kernel
theorem dJ6_bitCount_0f7a4_23 : decode cJ6_bitCount_0f7a4 23 = .ok (.istore_n 0, 1) := by decide +kernel
theorem dJ6_bitCount_0f7a4_24 : decode cJ6_bitCount_0f7a4 24 = .ok (.iload_n 0, 1) := by decide +kernel
theorem dJ6_bitCount_0f7a4_25 : decode cJ6_bitCount_0f7a4 25 = .ok (.iload_n 0, 1) := by decide +kernel
theorem dJ6_bitCount_0f7a4_26 : decode cJ6_bitCount_0f7a4 26 = .ok (.iconst 4, 1) := by decide +kernel
theorem dJ6_bitCount_0f7a4_27 : decode cJ6_bitCount_0f7a4 27 = .ok (.iushr, 1) := by decide +kernel
theorem dJ6_bitCount_0f7a4_28 : decode cJ6_bitCount_0f7a4 28 = .ok (.iadd, 1) := by decide +kernel
theorem dJ6_bitCount_0f7a4_29 : decode cJ6_bitCount_0f7a4 29 = .ok (.ldc_w 267, 3) := by decide +kernel
theorem dJ6_bitCount_0f7a4_32 : decode cJ6_bitCount_0f7a4 32 = .ok (.iand, 1) := by decide +kernel
theorem dJ6_bitCount_0f7a4_33 : decode cJ6_bitCount_0f7a4 33 = .ok (.istore_n 0, 1) := by decide +kernel
theorem dJ6_bitCount_0f7a4_34 : decode cJ6_bitCount_0f7a4 34 = .ok (.iload_n 0, 1) := by decide +kernel
theorem dJ6_bitCount_0f7a4_35 : decode cJ6_bitCount_0f7a4 35 = .ok (.iload_n 0, 1) := by decide +kernel
theorem dJ6_bitCount_0f7a4_36 : decode cJ6_bitCount_0f7a4 36 = .ok (.bipush 8, 2) := by decide +kernel
theorem dJ6_bitCount_0f7a4_38 : decode cJ6_bitCount_0f7a4 38 = .ok (.iushr, 1) := by decide +kernel
theorem dJ6_bitCount_0f7a4_39 : decode cJ6_bitCount_0f7a4 39 = .ok (.iadd, 1) := by decide +kernel
theorem dJ6_bitCount_0f7a4_40 : decode cJ6_bitCount_0f7a4 40 = .ok (.istore_n 0, 1) := by decide +kernel
theorem dJ6_bitCount_0f7a4_41 : decode cJ6_bitCount_0f7a4 41 = .ok (.iload_n 0, 1) := by decide +kernel
theorem dJ6_bitCount_0f7a4_42 : decode cJ6_bitCount_0f7a4 42 = .ok (.iload_n 0, 1) := by decide +kernel
theorem dJ6_bitCount_0f7a4_43 : decode cJ6_bitCount_0f7a4 43 = .ok (.bipush 16, 2) := by decide +kernel
theorem dJ6_bitCount_0f7a4_45 : decode cJ6_bitCount_0f7a4 45 = .ok (.iushr, 1) := by decide +kernel
theorem dJ6_bitCount_0f7a4_46 : decode cJ6_bitCount_0f7a4 46 = .ok (.iadd, 1) := by decide +kernel
theorem dJ6_bitCount_0f7a4_47 : decode cJ6_bitCount_0f7a4 47 = .ok (.istore_n 0, 1) := by decide +kernel
theorem dJ6_bitCount_0f7a4_48 : decode cJ6_bitCount_0f7a4 48 = .ok (.iload_n 0, 1) := by decide +kernel
theorem dJ6_bitCount_0f7a4_49 : decode cJ6_bitCount_0f7a4 49 = .ok (.bipush 63, 2) := by decide +kernel
theorem dJ6_bitCount_0f7a4_51 : decode cJ6_bitCount_0f7a4 51 = .ok (.iand, 1) := by decide +kernel
theorem dJ6_bitCount_0f7a4_52 : decode cJ6_bitCount_0f7a4 52 = .ok (.ireturn, 1) := by decide +kernel
theorem dJ9_max_7cf53_0 : decode cJ9_max_7cf53 0 = .ok (.iload_n 0, 1) := by decide +kernel
theorem dJ9_max_7cf53_1 : decode cJ9_max_7cf53 1 = .ok (.iload_n 1, 1) := by decide +kernel
theorem dJ9_max_7cf53_2 : decode cJ9_max_7cf53 2 = .ok (.if_icmp .lt 7, 3) := by decide +kernel
theorem dJ9_max_7cf53_5 : decode cJ9_max_7cf53 5 = .ok (.iload_n 0, 1) := by decide +kernel
theorem dJ9_max_7cf53_6 : decode cJ9_max_7cf53 6 = .ok (.goto 4, 3) := by decide +kernel
theorem dJ9_max_7cf53_9 : decode cJ9_max_7cf53 9 = .ok (.iload_n 1, 1) := by decide +kernel
theorem dJ9_max_7cf53_10 : decode cJ9_max_7cf53 10 = .ok (.ireturn, 1) := by decide +kernel
theorem dL_cell_0 : decode cL_cell 0 = .ok (.iload_n 1, 1) := by decide +kernel
theorem dL_cell_1 : decode cL_cell 1 = .ok (.aload_n 0, 1) := by decide +kernel
theorem dL_cell_2 : decode cL_cell 2 = .ok (.arraylength, 1) := by decide +kernel
theorem dL_cell_3 : decode cL_cell 3 = .ok (.if_icmp .ge 9, 3) := by decide +kernel
theorem dL_cell_6 : decode cL_cell 6 = .ok (.aload_n 0, 1) := by decide +kernel
theorem dL_cell_7 : decode cL_cell 7 = .ok (.iload_n 1, 1) := by decide +kernel
theorem dL_cell_8 : decode cL_cell 8 = .ok (.iaload, 1) := by decide +kernel
theorem dL_cell_9 : decode cL_cell 9 = .ok (.goto 9, 3) := by decide +kernel
theorem dL_cell_12 : decode cL_cell 12 = .ok (.ldc 7, 2) := by decide +kernel
theorem dL_cell_14 : decode cL_cell 14 = .ok (.iload_n 1, 1) := by decide +kernel
theorem dL_cell_15 : decode cL_cell 15 = .ok (.iconst 3, 1) := by decide +kernel
theorem dL_cell_16 : decode cL_cell 16 = .ok (.iadd, 1) := by decide +kernel
theorem dL_cell_17 : decode cL_cell 17 = .ok (.imul, 1) := by decide +kernel
theorem dL_cell_18 : decode cL_cell 18 = .ok (.ireturn, 1) := by decide +kernel
theorem dL_low_0 : decode cL_low 0 = .ok (.iload_n 0, 1) := by decide +kernel
theorem dL_low_1 : decode cL_low 1 = .ok (.ldc 8, 2) := by decide +kernel
theorem dL_low_3 : decode cL_low 3 = .ok (.iand, 1) := by decide +kernel
theorem dL_low_4 : decode cL_low 4 = .ok (.iload_n 1, 1) := by decide +kernel
theorem dL_low_5 : decode cL_low 5 = .ok (.irem, 1) := by decide +kernel
theorem dL_low_6 : decode cL_low 6 = .ok (.ireturn, 1) := by decide +kernel
theorem dL_many_0 : decode cL_many 0 = .ok (.bipush 8, 2) := by decide +kernel
theorem dL_many_2 : decode cL_many 2 = .ok (.iload_n 1, 1) := by decide +kernel
theorem dL_many_3 : decode cL_many 3 = .ok (.imul, 1) := by decide +kernel
theorem dL_many_4 : decode cL_many 4 = .ok (.istore_n 2, 1) := by decide +kernel
theorem dL_many_5 : decode cL_many 5 = .ok (.aload_n 0, 1) := by decide +kernel
theorem dL_many_6 : decode cL_many 6 = .ok (.iload_n 2, 1) := by decide +kernel
theorem dL_many_7 : decode cL_many 7 = .ok (.iaload, 1) := by decide +kernel
theorem dL_many_8 : decode cL_many 8 = .ok (.iconst 2, 1) := by decide +kernel
theorem dL_many_9 : decode cL_many 9 = .ok (.if_icmp .ne 13, 3) := by decide +kernel
theorem dL_many_12 : decode cL_many 12 = .ok (.aload_n 0, 1) := by decide +kernel
theorem dL_many_13 : decode cL_many 13 = .ok (.iload_n 2, 1) := by decide +kernel
theorem dL_many_14 : decode cL_many 14 = .ok (.iconst 2, 1) := by decide +kernel
theorem dL_many_15 : decode cL_many 15 = .ok (.iadd, 1) := by decide +kernel
theorem dL_many_16 : decode cL_many 16 = .ok (.iaload, 1) := by decide +kernel
theorem dL_many_17 : decode cL_many 17 = .ok (.iconst 1, 1) := by decide +kernel
theorem dL_many_18 : decode cL_many 18 = .ok (.iadd, 1) := by decide +kernel
theorem dL_many_19 : decode cL_many 19 = .ok (.goto 40, 3) := by decide +kernel
theorem dL_many_22 : decode cL_many 22 = .ok (.aload_n 0, 1) := by decide +kernel
theorem dL_many_23 : decode cL_many 23 = .ok (.iload_n 2, 1) := by decide +kernel
theorem dL_many_24 : decode cL_many 24 = .ok (.iconst 2, 1) := by decide +kernel
theorem dL_many_25 : decode cL_many 25 = .ok (.iadd, 1) := by decide +kernel
theorem dL_many_26 : decode cL_many 26 = .ok (.iaload, 1) := by decide +kernel
theorem dL_many_27 : decode cL_many 27 = .ok (.ifCond .ne 7, 3) := by decide +kernel
theorem dL_many_30 : decode cL_many 30 = .ok (.iconst 1, 1) := by decide +kernel
theorem dL_many_31 : decode cL_many 31 = .ok (.goto 28, 3) := by decide +kernel
theorem dL_many_34 : decode cL_many 34 = .ok (.aload_n 0, 1) := by decide +kernel
theorem dL_many_35 : decode cL_many 35 = .ok (.iload_n 2, 1) := by decide +kernel
theorem dL_many_36 : decode cL_many 36 = .ok (.iconst 3, 1) := by decide +kernel
theorem dL_many_37 : decode cL_many 37 = .ok (.iadd, 1) := by decide +kernel
theorem dL_many_38 : decode cL_many 38 = .ok (.iaload, 1) := by decide +kernel
theorem dL_many_39 : decode cL_many 39 = .ok (.ifCond .ne 7, 3) := by decide +kernel
theorem dL_many_42 : decode cL_many 42 = .ok (.iconst 2, 1) := by decide +kernel
theorem dL_many_43 : decode cL_many 43 = .ok (.goto 16, 3) := by decide +kernel
theorem dL_many_46 : decode cL_many 46 = .ok (.aload_n 0, 1) := by decide +kernel
theorem dL_many_47 : decode cL_many 47 = .ok (.iload_n 2, 1) := by decide +kernel
theorem dL_many_48 : decode cL_many 48 = .ok (.iconst 4, 1) := by decide +kernel
theorem dL_many_49 : decode cL_many 49 = .ok (.iadd, 1) := by decide +kernel
theorem dL_many_50 : decode cL_many 50 = .ok (.iaload, 1) := by decide +kernel
theorem dL_many_51 : decode cL_many 51 = .ok (.ifCond .ne 7, 3) := by decide +kernel
theorem dL_many_54 : decode cL_many 54 = .ok (.iconst 3, 1) := by decide +kernel
theorem dL_many_55 : decode cL_many 55 = .ok (.goto 4, 3) := by decide +kernel
theorem dL_many_58 : decode cL_many 58 = .ok (.iconst 4, 1) := by decide +kernel
theorem dL_many_59 : decode cL_many 59 = .ok (.ireturn, 1) := by decide +kernel
theorem dL_gap_0 : decode cL_gap 0 = .ok (.bipush 8, 2) := by decide +kernel
theorem dL_gap_2 : decode cL_gap 2 = .ok (.iload_n 1, 1) := by decide +kernel
theorem dL_gap_3 : decode cL_gap 3 = .ok (.imul, 1) := by decide +kernel
theorem dL_gap_4 : decode cL_gap 4 = .ok (.istore_n 3, 1) := by decide +kernel
theorem dL_gap_5 : decode cL_gap 5 = .ok (.aload_n 0, 1) := by decide +kernel
theorem dL_gap_6 : decode cL_gap 6 = .ok (.iload_n 3, 1) := by decide +kernel
theorem dL_gap_7 : decode cL_gap 7 = .ok (.iaload, 1) := by decide +kernel
theorem dL_gap_8 : decode cL_gap 8 = .ok (.iconst 2, 1) := by decide +kernel
theorem dL_gap_9 : decode cL_gap 9 = .ok (.if_icmp .ne 24, 3) := by decide +kernel
theorem dL_gap_12 : decode cL_gap 12 = .ok (.aload_n 0, 1) := by decide +kernel
theorem dL_gap_13 : decode cL_gap 13 = .ok (.iload_n 3, 1) := by decide +kernel
theorem dL_gap_14 : decode cL_gap 14 = .ok (.iload_n 2, 1) := by decide +kernel
theorem dL_gap_15 : decode cL_gap 15 = .ok (.aload_n 0, 1) := by decide +kernel
theorem dL_gap_16 : decode cL_gap 16 = .ok (.iload_n 3, 1) := by decide +kernel
theorem dL_gap_17 : decode cL_gap 17 = .ok (.iconst 2, 1) := by decide +kernel
theorem dL_gap_18 : decode cL_gap 18 = .ok (.iadd, 1) := by decide +kernel
theorem dL_gap_19 : decode cL_gap 19 = .ok (.iaload, 1) := by decide +kernel
theorem dL_gap_20 : decode cL_gap 20 = .ok (.if_icmp .ne 7, 3) := by decide +kernel
theorem dL_gap_23 : decode cL_gap 23 = .ok (.iconst 3, 1) := by decide +kernel
theorem dL_gap_24 : decode cL_gap 24 = .ok (.goto 4, 3) := by decide +kernel
theorem dL_gap_27 : decode cL_gap 27 = .ok (.iconst 1, 1) := by decide +kernel
theorem dL_gap_28 : decode cL_gap 28 = .ok (.iadd, 1) := by decide +kernel
theorem dL_gap_29 : decode cL_gap 29 = .ok (.iaload, 1) := by decide +kernel
theorem dL_gap_30 : decode cL_gap 30 = .ok (.goto 10, 3) := by decide +kernel
theorem dL_gap_33 : decode cL_gap 33 = .ok (.aload_n 0, 1) := by decide +kernel
theorem dL_gap_34 : decode cL_gap 34 = .ok (.iload_n 3, 1) := by decide +kernel
theorem dL_gap_35 : decode cL_gap 35 = .ok (.iconst 1, 1) := by decide +kernel
theorem dL_gap_36 : decode cL_gap 36 = .ok (.iadd, 1) := by decide +kernel
theorem dL_gap_37 : decode cL_gap 37 = .ok (.iload_n 2, 1) := by decide +kernel
theorem dL_gap_38 : decode cL_gap 38 = .ok (.iadd, 1) := by decide +kernel
theorem dL_gap_39 : decode cL_gap 39 = .ok (.iaload, 1) := by decide +kernel
theorem dL_gap_40 : decode cL_gap 40 = .ok (.ireturn, 1) := by decide +kernel
theorem dL_begins_0 : decode cL_begins 0 = .ok (.aload_n 1, 1) := by decide +kernel
theorem dL_begins_1 : decode cL_begins 1 = .ok (.iload_n 2, 1) := by decide +kernel
theorem dL_begins_2 : decode cL_begins 2 = .ok (.invokestatic 9, 3) := by decide +kernel
theorem dL_begins_5 : decode cL_begins 5 = .ok (.istore_n 3, 1) := by decide +kernel
theorem dL_begins_6 : decode cL_begins 6 = .ok (.aload_n 1, 1) := by decide +kernel
theorem dL_begins_7 : decode cL_begins 7 = .ok (.bipush 8, 2) := by decide +kernel
theorem dL_begins_9 : decode cL_begins 9 = .ok (.iload_n 2, 1) := by decide +kernel
theorem dL_begins_10 : decode cL_begins 10 = .ok (.imul, 1) := by decide +kernel
theorem dL_begins_11 : decode cL_begins 11 = .ok (.iaload, 1) := by decide +kernel
theorem dL_begins_12 : decode cL_begins 12 = .ok (.iconst 1, 1) := by decide +kernel
theorem dL_begins_13 : decode cL_begins 13 = .ok (.if_icmp .ne 37, 3) := by decide +kernel
theorem dL_begins_16 : decode cL_begins 16 = .ok (.aload_n 0, 1) := by decide +kernel
theorem dL_begins_17 : decode cL_begins 17 = .ok (.iconst 3, 1) := by decide +kernel
theorem dL_begins_18 : decode cL_begins 18 = .ok (.sipush 421, 3) := by decide +kernel
theorem dL_begins_21 : decode cL_begins 21 = .ok (.aload_n 0, 1) := by decide +kernel
theorem dL_begins_22 : decode cL_begins 22 = .ok (.iconst 3, 1) := by decide +kernel
theorem dL_begins_23 : decode cL_begins 23 = .ok (.iaload, 1) := by decide +kernel
theorem dL_begins_24 : decode cL_begins 24 = .ok (.imul, 1) := by decide +kernel
theorem dL_begins_25 : decode cL_begins 25 = .ok (.sipush 1663, 3) := by decide +kernel
theorem dL_begins_28 : decode cL_begins 28 = .ok (.iadd, 1) := by decide +kernel
theorem dL_begins_29 : decode cL_begins 29 = .ok (.sipush 10000, 3) := by decide +kernel
theorem dL_begins_32 : decode cL_begins 32 = .ok (.irem, 1) := by decide +kernel
theorem dL_begins_33 : decode cL_begins 33 = .ok (.iastore, 1) := by decide +kernel
theorem dL_begins_34 : decode cL_begins 34 = .ok (.aload_n 1, 1) := by decide +kernel
theorem dL_begins_35 : decode cL_begins 35 = .ok (.bipush 8, 2) := by decide +kernel
theorem dL_begins_37 : decode cL_begins 37 = .ok (.iload_n 2, 1) := by decide +kernel
theorem dL_begins_38 : decode cL_begins 38 = .ok (.imul, 1) := by decide +kernel
theorem dL_begins_39 : decode cL_begins 39 = .ok (.iconst 5, 1) := by decide +kernel
theorem dL_begins_40 : decode cL_begins 40 = .ok (.iadd, 1) := by decide +kernel
theorem dL_begins_41 : decode cL_begins 41 = .ok (.aload_n 0, 1) := by decide +kernel
theorem dL_begins_42 : decode cL_begins 42 = .ok (.iconst 3, 1) := by decide +kernel
theorem dL_begins_43 : decode cL_begins 43 = .ok (.iaload, 1) := by decide +kernel
theorem dL_begins_44 : decode cL_begins 44 = .ok (.iload_n 3, 1) := by decide +kernel
theorem dL_begins_45 : decode cL_begins 45 = .ok (.irem, 1) := by decide +kernel
theorem dL_begins_46 : decode cL_begins 46 = .ok (.iastore, 1) := by decide +kernel
theorem dL_begins_47 : decode cL_begins 47 = .ok (.goto 39, 3) := by decide +kernel
theorem dL_begins_50 : decode cL_begins 50 = .ok (.aload_n 1, 1) := by decide +kernel
theorem dL_begins_51 : decode cL_begins 51 = .ok (.bipush 8, 2) := by decide +kernel
theorem dL_begins_53 : decode cL_begins 53 = .ok (.iload_n 2, 1) := by decide +kernel
theorem dL_begins_54 : decode cL_begins 54 = .ok (.imul, 1) := by decide +kernel
theorem dL_begins_55 : decode cL_begins 55 = .ok (.iconst 5, 1) := by decide +kernel
theorem dL_begins_56 : decode cL_begins 56 = .ok (.iadd, 1) := by decide +kernel
theorem dL_begins_57 : decode cL_begins 57 = .ok (.aload_n 1, 1) := by decide +kernel
theorem dL_begins_58 : decode cL_begins 58 = .ok (.bipush 8, 2) := by decide +kernel
theorem dL_begins_60 : decode cL_begins 60 = .ok (.iload_n 2, 1) := by decide +kernel
theorem dL_begins_61 : decode cL_begins 61 = .ok (.imul, 1) := by decide +kernel
theorem dL_begins_62 : decode cL_begins 62 = .ok (.iconst 5, 1) := by decide +kernel
theorem dL_begins_63 : decode cL_begins 63 = .ok (.iadd, 1) := by decide +kernel
theorem dL_begins_64 : decode cL_begins 64 = .ok (.iaload, 1) := by decide +kernel
theorem dL_begins_65 : decode cL_begins 65 = .ok (.iload_n 3, 1) := by decide +kernel
theorem dL_begins_66 : decode cL_begins 66 = .ok (.iconst 1, 1) := by decide +kernel
theorem dL_begins_67 : decode cL_begins 67 = .ok (.isub, 1) := by decide +kernel
theorem dL_begins_68 : decode cL_begins 68 = .ok (.if_icmp .ne 7, 3) := by decide +kernel
theorem dL_begins_71 : decode cL_begins 71 = .ok (.iconst 0, 1) := by decide +kernel
theorem dL_begins_72 : decode cL_begins 72 = .ok (.goto 13, 3) := by decide +kernel
theorem dL_begins_75 : decode cL_begins 75 = .ok (.aload_n 1, 1) := by decide +kernel
theorem dL_begins_76 : decode cL_begins 76 = .ok (.bipush 8, 2) := by decide +kernel
theorem dL_begins_78 : decode cL_begins 78 = .ok (.iload_n 2, 1) := by decide +kernel
theorem dL_begins_79 : decode cL_begins 79 = .ok (.imul, 1) := by decide +kernel
theorem dL_begins_80 : decode cL_begins 80 = .ok (.iconst 5, 1) := by decide +kernel
theorem dL_begins_81 : decode cL_begins 81 = .ok (.iadd, 1) := by decide +kernel
theorem dL_begins_82 : decode cL_begins 82 = .ok (.iaload, 1) := by decide +kernel
theorem dL_begins_83 : decode cL_begins 83 = .ok (.iconst 1, 1) := by decide +kernel
theorem dL_begins_84 : decode cL_begins 84 = .ok (.iadd, 1) := by decide +kernel
theorem dL_begins_85 : decode cL_begins 85 = .ok (.iastore, 1) := by decide +kernel
theorem dL_begins_86 : decode cL_begins 86 = .ok (.aload_n 1, 1) := by decide +kernel
theorem dL_begins_87 : decode cL_begins 87 = .ok (.bipush 8, 2) := by decide +kernel
theorem dL_begins_89 : decode cL_begins 89 = .ok (.iload_n 2, 1) := by decide +kernel
theorem dL_begins_90 : decode cL_begins 90 = .ok (.imul, 1) := by decide +kernel
theorem dL_begins_91 : decode cL_begins 91 = .ok (.bipush 6, 2) := by decide +kernel
theorem dL_begins_93 : decode cL_begins 93 = .ok (.iadd, 1) := by decide +kernel
theorem dL_begins_94 : decode cL_begins 94 = .ok (.aload_n 1, 1) := by decide +kernel
theorem dL_begins_95 : decode cL_begins 95 = .ok (.iload_n 2, 1) := by decide +kernel
theorem dL_begins_96 : decode cL_begins 96 = .ok (.aload_n 1, 1) := by decide +kernel
theorem dL_begins_97 : decode cL_begins 97 = .ok (.bipush 8, 2) := by decide +kernel
theorem dL_begins_99 : decode cL_begins 99 = .ok (.iload_n 2, 1) := by decide +kernel
theorem dL_begins_100 : decode cL_begins 100 = .ok (.imul, 1) := by decide +kernel
theorem dL_begins_101 : decode cL_begins 101 = .ok (.iconst 5, 1) := by decide +kernel
theorem dL_begins_102 : decode cL_begins 102 = .ok (.iadd, 1) := by decide +kernel
theorem dL_begins_103 : decode cL_begins 103 = .ok (.iaload, 1) := by decide +kernel
theorem dL_begins_104 : decode cL_begins 104 = .ok (.invokestatic 15, 3) := by decide +kernel
theorem dL_begins_107 : decode cL_begins 107 = .ok (.iastore, 1) := by decide +kernel
theorem dL_begins_108 : decode cL_begins 108 = .ok (.aload_n 1, 1) := by decide +kernel
theorem dL_begins_109 : decode cL_begins 109 = .ok (.bipush 8, 2) := by decide +kernel
theorem dL_begins_111 : decode cL_begins 111 = .ok (.iload_n 2, 1) := by decide +kernel
theorem dL_begins_112 : decode cL_begins 112 = .ok (.imul, 1) := by decide +kernel
theorem dL_begins_113 : decode cL_begins 113 = .ok (.bipush 7, 2) := by decide +kernel
theorem dL_begins_115 : decode cL_begins 115 = .ok (.iadd, 1) := by decide +kernel
theorem dL_begins_116 : decode cL_begins 116 = .ok (.iconst 0, 1) := by decide +kernel
theorem dL_begins_117 : decode cL_begins 117 = .ok (.iastore, 1) := by decide +kernel
theorem dL_begins_118 : decode cL_begins 118 = .ok (.return_, 1) := by decide +kernel
theorem dL_bitsOf_0 : decode cL_bitsOf 0 = .ok (.iconst 0, 1) := by decide +kernel
theorem dL_bitsOf_1 : decode cL_bitsOf 1 = .ok (.istore_n 1, 1) := by decide +kernel
theorem dL_bitsOf_2 : decode cL_bitsOf 2 = .ok (.iload_n 0, 1) := by decide +kernel
theorem dL_bitsOf_3 : decode cL_bitsOf 3 = .ok (.istore_n 2, 1) := by decide +kernel
theorem dL_bitsOf_4 : decode cL_bitsOf 4 = .ok (.iload_n 2, 1) := by decide +kernel
theorem dL_bitsOf_5 : decode cL_bitsOf 5 = .ok (.ifCond .le 16, 3) := by decide +kernel
theorem dL_bitsOf_8 : decode cL_bitsOf 8 = .ok (.iload_n 1, 1) := by decide +kernel
theorem dL_bitsOf_9 : decode cL_bitsOf 9 = .ok (.iload_n 2, 1) := by decide +kernel
theorem dL_bitsOf_10 : decode cL_bitsOf 10 = .ok (.iconst 1, 1) := by decide +kernel
theorem dL_bitsOf_11 : decode cL_bitsOf 11 = .ok (.iand, 1) := by decide +kernel
theorem dL_bitsOf_12 : decode cL_bitsOf 12 = .ok (.iadd, 1) := by decide +kernel
theorem dL_bitsOf_13 : decode cL_bitsOf 13 = .ok (.istore_n 1, 1) := by decide +kernel
theorem dL_bitsOf_14 : decode cL_bitsOf 14 = .ok (.iload_n 2, 1) := by decide +kernel
theorem dL_bitsOf_15 : decode cL_bitsOf 15 = .ok (.iconst 1, 1) := by decide +kernel
theorem dL_bitsOf_16 : decode cL_bitsOf 16 = .ok (.ishr, 1) := by decide +kernel
theorem dL_bitsOf_17 : decode cL_bitsOf 17 = .ok (.istore_n 2, 1) := by decide +kernel
theorem dL_bitsOf_18 : decode cL_bitsOf 18 = .ok (.goto (-14), 3) := by decide +kernel
theorem dL_bitsOf_21 : decode cL_bitsOf 21 = .ok (.iload_n 1, 1) := by decide +kernel
theorem dL_bitsOf_22 : decode cL_bitsOf 22 = .ok (.ireturn, 1) := by decide +kernel
theorem dL_ticks_0 : decode cL_ticks 0 = .ok (.iconst 0, 1) := by decide +kernel
theorem dL_ticks_1 : decode cL_ticks 1 = .ok (.istore 4, 2) := by decide +kernel
theorem dL_ticks_3 : decode cL_ticks 3 = .ok (.iconst 0, 1) := by decide +kernel
theorem dL_ticks_4 : decode cL_ticks 4 = .ok (.istore 5, 2) := by decide +kernel
theorem dL_ticks_6 : decode cL_ticks 6 = .ok (.iload 5, 2) := by decide +kernel
theorem dL_ticks_8 : decode cL_ticks 8 = .ok (.aload_n 0, 1) := by decide +kernel
theorem dL_ticks_9 : decode cL_ticks 9 = .ok (.iconst 0, 1) := by decide +kernel
theorem dL_ticks_10 : decode cL_ticks 10 = .ok (.iaload, 1) := by decide +kernel
theorem dL_ticks_11 : decode cL_ticks 11 = .ok (.if_icmp .ge 145, 3) := by decide +kernel
theorem dL_ticks_14 : decode cL_ticks 14 = .ok (.aload_n 1, 1) := by decide +kernel
theorem dL_ticks_15 : decode cL_ticks 15 = .ok (.bipush 8, 2) := by decide +kernel
theorem dL_ticks_17 : decode cL_ticks 17 = .ok (.iload 5, 2) := by decide +kernel
theorem dL_ticks_19 : decode cL_ticks 19 = .ok (.imul, 1) := by decide +kernel
theorem dL_ticks_20 : decode cL_ticks 20 = .ok (.bipush 7, 2) := by decide +kernel
theorem dL_ticks_22 : decode cL_ticks 22 = .ok (.iadd, 1) := by decide +kernel
theorem dL_ticks_23 : decode cL_ticks 23 = .ok (.dup2, 1) := by decide +kernel
theorem dL_ticks_24 : decode cL_ticks 24 = .ok (.iaload, 1) := by decide +kernel
theorem dL_ticks_25 : decode cL_ticks 25 = .ok (.iconst 1, 1) := by decide +kernel
theorem dL_ticks_26 : decode cL_ticks 26 = .ok (.iadd, 1) := by decide +kernel
theorem dL_ticks_27 : decode cL_ticks 27 = .ok (.iastore, 1) := by decide +kernel
theorem dL_ticks_28 : decode cL_ticks 28 = .ok (.aload_n 1, 1) := by decide +kernel
theorem dL_ticks_29 : decode cL_ticks 29 = .ok (.bipush 8, 2) := by decide +kernel
theorem dL_ticks_31 : decode cL_ticks 31 = .ok (.iload 5, 2) := by decide +kernel
theorem dL_ticks_33 : decode cL_ticks 33 = .ok (.imul, 1) := by decide +kernel
theorem dL_ticks_34 : decode cL_ticks 34 = .ok (.bipush 6, 2) := by decide +kernel
theorem dL_ticks_36 : decode cL_ticks 36 = .ok (.iadd, 1) := by decide +kernel
theorem dL_ticks_37 : decode cL_ticks 37 = .ok (.iaload, 1) := by decide +kernel
theorem dL_ticks_38 : decode cL_ticks 38 = .ok (.istore 6, 2) := by decide +kernel
theorem dL_ticks_40 : decode cL_ticks 40 = .ok (.aload_n 1, 1) := by decide +kernel
theorem dL_ticks_41 : decode cL_ticks 41 = .ok (.bipush 8, 2) := by decide +kernel
theorem dL_ticks_43 : decode cL_ticks 43 = .ok (.iload 5, 2) := by decide +kernel
theorem dL_ticks_45 : decode cL_ticks 45 = .ok (.imul, 1) := by decide +kernel
theorem dL_ticks_46 : decode cL_ticks 46 = .ok (.bipush 7, 2) := by decide +kernel
theorem dL_ticks_48 : decode cL_ticks 48 = .ok (.iadd, 1) := by decide +kernel
theorem dL_ticks_49 : decode cL_ticks 49 = .ok (.iaload, 1) := by decide +kernel
theorem dL_ticks_50 : decode cL_ticks 50 = .ok (.iload 6, 2) := by decide +kernel
theorem dL_ticks_52 : decode cL_ticks 52 = .ok (.if_icmp .ne 98, 3) := by decide +kernel
theorem dL_ticks_55 : decode cL_ticks 55 = .ok (.iload 4, 2) := by decide +kernel
theorem dL_ticks_57 : decode cL_ticks 57 = .ok (.iconst 1, 1) := by decide +kernel
theorem dL_ticks_58 : decode cL_ticks 58 = .ok (.iload 5, 2) := by decide +kernel
theorem dL_ticks_60 : decode cL_ticks 60 = .ok (.ishl, 1) := by decide +kernel
theorem dL_ticks_61 : decode cL_ticks 61 = .ok (.iadd, 1) := by decide +kernel
theorem dL_ticks_62 : decode cL_ticks 62 = .ok (.istore 4, 2) := by decide +kernel
theorem dL_ticks_64 : decode cL_ticks 64 = .ok (.aload_n 2, 1) := by decide +kernel
theorem dL_ticks_65 : decode cL_ticks 65 = .ok (.bipush 7, 2) := by decide +kernel
theorem dL_ticks_67 : decode cL_ticks 67 = .ok (.iload 5, 2) := by decide +kernel
theorem dL_ticks_69 : decode cL_ticks 69 = .ok (.imul, 1) := by decide +kernel
theorem dL_ticks_70 : decode cL_ticks 70 = .ok (.dup2, 1) := by decide +kernel
theorem dL_ticks_71 : decode cL_ticks 71 = .ok (.iaload, 1) := by decide +kernel
theorem dL_ticks_72 : decode cL_ticks 72 = .ok (.iconst 1, 1) := by decide +kernel
theorem dL_ticks_73 : decode cL_ticks 73 = .ok (.iadd, 1) := by decide +kernel
theorem dL_ticks_74 : decode cL_ticks 74 = .ok (.iastore, 1) := by decide +kernel
theorem dL_ticks_75 : decode cL_ticks 75 = .ok (.aload_n 2, 1) := by decide +kernel
theorem dL_ticks_76 : decode cL_ticks 76 = .ok (.bipush 7, 2) := by decide +kernel
theorem dL_ticks_78 : decode cL_ticks 78 = .ok (.iload 5, 2) := by decide +kernel
theorem dL_ticks_80 : decode cL_ticks 80 = .ok (.imul, 1) := by decide +kernel
theorem dL_ticks_81 : decode cL_ticks 81 = .ok (.iconst 1, 1) := by decide +kernel
theorem dL_ticks_82 : decode cL_ticks 82 = .ok (.iadd, 1) := by decide +kernel
theorem dL_ticks_83 : decode cL_ticks 83 = .ok (.dup2, 1) := by decide +kernel
theorem dL_ticks_84 : decode cL_ticks 84 = .ok (.iaload, 1) := by decide +kernel
theorem dL_ticks_85 : decode cL_ticks 85 = .ok (.iload 6, 2) := by decide +kernel
theorem dL_ticks_87 : decode cL_ticks 87 = .ok (.iadd, 1) := by decide +kernel
theorem dL_ticks_88 : decode cL_ticks 88 = .ok (.iastore, 1) := by decide +kernel
theorem dL_ticks_89 : decode cL_ticks 89 = .ok (.aload_n 2, 1) := by decide +kernel
theorem dL_ticks_90 : decode cL_ticks 90 = .ok (.bipush 7, 2) := by decide +kernel
theorem dL_ticks_92 : decode cL_ticks 92 = .ok (.iload 5, 2) := by decide +kernel
theorem dL_ticks_94 : decode cL_ticks 94 = .ok (.imul, 1) := by decide +kernel
theorem dL_ticks_95 : decode cL_ticks 95 = .ok (.iconst 2, 1) := by decide +kernel
theorem dL_ticks_96 : decode cL_ticks 96 = .ok (.iadd, 1) := by decide +kernel
theorem dL_ticks_97 : decode cL_ticks 97 = .ok (.dup2, 1) := by decide +kernel
theorem dL_ticks_98 : decode cL_ticks 98 = .ok (.iaload, 1) := by decide +kernel
theorem dL_ticks_99 : decode cL_ticks 99 = .ok (.iload 6, 2) := by decide +kernel
theorem dL_ticks_101 : decode cL_ticks 101 = .ok (.iload 6, 2) := by decide +kernel
theorem dL_ticks_103 : decode cL_ticks 103 = .ok (.imul, 1) := by decide +kernel
theorem dL_ticks_104 : decode cL_ticks 104 = .ok (.iadd, 1) := by decide +kernel
theorem dL_ticks_105 : decode cL_ticks 105 = .ok (.iastore, 1) := by decide +kernel
theorem dL_ticks_106 : decode cL_ticks 106 = .ok (.aload_n 2, 1) := by decide +kernel
theorem dL_ticks_107 : decode cL_ticks 107 = .ok (.bipush 7, 2) := by decide +kernel
theorem dL_ticks_109 : decode cL_ticks 109 = .ok (.iload 5, 2) := by decide +kernel
theorem dL_ticks_111 : decode cL_ticks 111 = .ok (.imul, 1) := by decide +kernel
theorem dL_ticks_112 : decode cL_ticks 112 = .ok (.iconst 3, 1) := by decide +kernel
theorem dL_ticks_113 : decode cL_ticks 113 = .ok (.iadd, 1) := by decide +kernel
theorem dL_ticks_114 : decode cL_ticks 114 = .ok (.iload 6, 2) := by decide +kernel
theorem dL_ticks_116 : decode cL_ticks 116 = .ok (.aload_n 2, 1) := by decide +kernel
theorem dL_ticks_117 : decode cL_ticks 117 = .ok (.bipush 7, 2) := by decide +kernel
theorem dL_ticks_119 : decode cL_ticks 119 = .ok (.iload 5, 2) := by decide +kernel
theorem dL_ticks_121 : decode cL_ticks 121 = .ok (.imul, 1) := by decide +kernel
theorem dL_ticks_122 : decode cL_ticks 122 = .ok (.iconst 3, 1) := by decide +kernel
theorem dL_ticks_123 : decode cL_ticks 123 = .ok (.iadd, 1) := by decide +kernel
theorem dL_ticks_124 : decode cL_ticks 124 = .ok (.iaload, 1) := by decide +kernel
theorem dL_ticks_125 : decode cL_ticks 125 = .ok (.if_icmp .le 8, 3) := by decide +kernel
theorem dL_ticks_128 : decode cL_ticks 128 = .ok (.iload 6, 2) := by decide +kernel
theorem dL_ticks_130 : decode cL_ticks 130 = .ok (.goto 12, 3) := by decide +kernel
theorem dL_ticks_133 : decode cL_ticks 133 = .ok (.aload_n 2, 1) := by decide +kernel
theorem dL_ticks_134 : decode cL_ticks 134 = .ok (.bipush 7, 2) := by decide +kernel
theorem dL_ticks_136 : decode cL_ticks 136 = .ok (.iload 5, 2) := by decide +kernel
theorem dL_ticks_138 : decode cL_ticks 138 = .ok (.imul, 1) := by decide +kernel
theorem dL_ticks_139 : decode cL_ticks 139 = .ok (.iconst 3, 1) := by decide +kernel
theorem dL_ticks_140 : decode cL_ticks 140 = .ok (.iadd, 1) := by decide +kernel
theorem dL_ticks_141 : decode cL_ticks 141 = .ok (.iaload, 1) := by decide +kernel
theorem dL_ticks_142 : decode cL_ticks 142 = .ok (.iastore, 1) := by decide +kernel
theorem dL_ticks_143 : decode cL_ticks 143 = .ok (.aload_n 0, 1) := by decide +kernel
theorem dL_ticks_144 : decode cL_ticks 144 = .ok (.aload_n 1, 1) := by decide +kernel
theorem dL_ticks_145 : decode cL_ticks 145 = .ok (.iload 5, 2) := by decide +kernel
theorem dL_ticks_147 : decode cL_ticks 147 = .ok (.invokestatic 19, 3) := by decide +kernel
theorem dL_ticks_150 : decode cL_ticks 150 = .ok (.iinc 5 1, 3) := by decide +kernel
theorem dL_ticks_153 : decode cL_ticks 153 = .ok (.goto (-147), 3) := by decide +kernel
theorem dL_ticks_156 : decode cL_ticks 156 = .ok (.iconst 0, 1) := by decide +kernel
theorem dL_ticks_157 : decode cL_ticks 157 = .ok (.istore 5, 2) := by decide +kernel
theorem dL_ticks_159 : decode cL_ticks 159 = .ok (.iload 5, 2) := by decide +kernel
theorem dL_ticks_161 : decode cL_ticks 161 = .ok (.iconst 4, 1) := by decide +kernel
theorem dL_ticks_162 : decode cL_ticks 162 = .ok (.aload_n 0, 1) := by decide +kernel
theorem dL_ticks_163 : decode cL_ticks 163 = .ok (.iconst 1, 1) := by decide +kernel
theorem dL_ticks_164 : decode cL_ticks 164 = .ok (.iaload, 1) := by decide +kernel
theorem dL_ticks_165 : decode cL_ticks 165 = .ok (.imul, 1) := by decide +kernel
theorem dL_ticks_166 : decode cL_ticks 166 = .ok (.if_icmp .ge 54, 3) := by decide +kernel
theorem dL_ticks_169 : decode cL_ticks 169 = .ok (.iload 4, 2) := by decide +kernel
theorem dL_ticks_171 : decode cL_ticks 171 = .ok (.aload_n 3, 1) := by decide +kernel
theorem dL_ticks_172 : decode cL_ticks 172 = .ok (.iload 5, 2) := by decide +kernel
theorem dL_ticks_174 : decode cL_ticks 174 = .ok (.iconst 1, 1) := by decide +kernel
theorem dL_ticks_175 : decode cL_ticks 175 = .ok (.iadd, 1) := by decide +kernel
theorem dL_ticks_176 : decode cL_ticks 176 = .ok (.iaload, 1) := by decide +kernel
theorem dL_ticks_177 : decode cL_ticks 177 = .ok (.iand, 1) := by decide +kernel
theorem dL_ticks_178 : decode cL_ticks 178 = .ok (.invokestatic 23, 3) := by decide +kernel
theorem dL_ticks_181 : decode cL_ticks 181 = .ok (.istore 6, 2) := by decide +kernel
theorem dL_ticks_183 : decode cL_ticks 183 = .ok (.aload_n 3, 1) := by decide +kernel
theorem dL_ticks_184 : decode cL_ticks 184 = .ok (.iload 5, 2) := by decide +kernel
theorem dL_ticks_186 : decode cL_ticks 186 = .ok (.iconst 2, 1) := by decide +kernel
theorem dL_ticks_187 : decode cL_ticks 187 = .ok (.iadd, 1) := by decide +kernel
theorem dL_ticks_188 : decode cL_ticks 188 = .ok (.dup2, 1) := by decide +kernel
theorem dL_ticks_189 : decode cL_ticks 189 = .ok (.iaload, 1) := by decide +kernel
theorem dL_ticks_190 : decode cL_ticks 190 = .ok (.iload 6, 2) := by decide +kernel
theorem dL_ticks_192 : decode cL_ticks 192 = .ok (.iadd, 1) := by decide +kernel
theorem dL_ticks_193 : decode cL_ticks 193 = .ok (.iastore, 1) := by decide +kernel
theorem dL_ticks_194 : decode cL_ticks 194 = .ok (.aload_n 3, 1) := by decide +kernel
theorem dL_ticks_195 : decode cL_ticks 195 = .ok (.iload 5, 2) := by decide +kernel
theorem dL_ticks_197 : decode cL_ticks 197 = .ok (.iconst 3, 1) := by decide +kernel
theorem dL_ticks_198 : decode cL_ticks 198 = .ok (.iadd, 1) := by decide +kernel
theorem dL_ticks_199 : decode cL_ticks 199 = .ok (.dup2, 1) := by decide +kernel
theorem dL_ticks_200 : decode cL_ticks 200 = .ok (.iaload, 1) := by decide +kernel
theorem dL_ticks_201 : decode cL_ticks 201 = .ok (.iload 6, 2) := by decide +kernel
theorem dL_ticks_203 : decode cL_ticks 203 = .ok (.iconst 2, 1) := by decide +kernel
theorem dL_ticks_204 : decode cL_ticks 204 = .ok (.if_icmp .ge 7, 3) := by decide +kernel
theorem dL_ticks_207 : decode cL_ticks 207 = .ok (.iconst 0, 1) := by decide +kernel
theorem dL_ticks_208 : decode cL_ticks 208 = .ok (.goto 4, 3) := by decide +kernel
theorem dL_ticks_211 : decode cL_ticks 211 = .ok (.iconst 1, 1) := by decide +kernel
theorem dL_ticks_212 : decode cL_ticks 212 = .ok (.iadd, 1) := by decide +kernel
theorem dL_ticks_213 : decode cL_ticks 213 = .ok (.iastore, 1) := by decide +kernel
theorem dL_ticks_214 : decode cL_ticks 214 = .ok (.iinc 5 4, 3) := by decide +kernel
theorem dL_ticks_217 : decode cL_ticks 217 = .ok (.goto (-58), 3) := by decide +kernel
theorem dL_ticks_220 : decode cL_ticks 220 = .ok (.aload_n 0, 1) := by decide +kernel
theorem dL_ticks_221 : decode cL_ticks 221 = .ok (.iconst 2, 1) := by decide +kernel
theorem dL_ticks_222 : decode cL_ticks 222 = .ok (.dup2, 1) := by decide +kernel
theorem dL_ticks_223 : decode cL_ticks 223 = .ok (.iaload, 1) := by decide +kernel
theorem dL_ticks_224 : decode cL_ticks 224 = .ok (.iconst 1, 1) := by decide +kernel
theorem dL_ticks_225 : decode cL_ticks 225 = .ok (.iadd, 1) := by decide +kernel
theorem dL_ticks_226 : decode cL_ticks 226 = .ok (.iastore, 1) := by decide +kernel
theorem dL_ticks_227 : decode cL_ticks 227 = .ok (.iload 4, 2) := by decide +kernel
theorem dL_ticks_229 : decode cL_ticks 229 = .ok (.invokestatic 23, 3) := by decide +kernel
theorem dL_ticks_232 : decode cL_ticks 232 = .ok (.ireturn, 1) := by decide +kernel
theorem dL_rest_0 : decode cL_rest 0 = .ok (.aload_n 0, 1) := by decide +kernel
theorem dL_rest_1 : decode cL_rest 1 = .ok (.bipush 8, 2) := by decide +kernel
theorem dL_rest_3 : decode cL_rest 3 = .ok (.iload_n 1, 1) := by decide +kernel
theorem dL_rest_4 : decode cL_rest 4 = .ok (.imul, 1) := by decide +kernel
theorem dL_rest_5 : decode cL_rest 5 = .ok (.bipush 6, 2) := by decide +kernel
theorem dL_rest_7 : decode cL_rest 7 = .ok (.iadd, 1) := by decide +kernel
theorem dL_rest_8 : decode cL_rest 8 = .ok (.iaload, 1) := by decide +kernel
theorem dL_rest_9 : decode cL_rest 9 = .ok (.aload_n 0, 1) := by decide +kernel
theorem dL_rest_10 : decode cL_rest 10 = .ok (.bipush 8, 2) := by decide +kernel
theorem dL_rest_12 : decode cL_rest 12 = .ok (.iload_n 1, 1) := by decide +kernel
theorem dL_rest_13 : decode cL_rest 13 = .ok (.imul, 1) := by decide +kernel
theorem dL_rest_14 : decode cL_rest 14 = .ok (.bipush 7, 2) := by decide +kernel
theorem dL_rest_16 : decode cL_rest 16 = .ok (.iadd, 1) := by decide +kernel
theorem dL_rest_17 : decode cL_rest 17 = .ok (.iaload, 1) := by decide +kernel
theorem dL_rest_18 : decode cL_rest 18 = .ok (.isub, 1) := by decide +kernel
theorem dL_rest_19 : decode cL_rest 19 = .ok (.ireturn, 1) := by decide +kernel
theorem dL_comes_0 : decode cL_comes 0 = .ok (.iload 4, 2) := by decide +kernel
theorem dL_comes_2 : decode cL_comes 2 = .ok (.iconst 3, 1) := by decide +kernel
theorem dL_comes_3 : decode cL_comes 3 = .ok (.irem, 1) := by decide +kernel
theorem dL_comes_4 : decode cL_comes 4 = .ok (.istore 5, 2) := by decide +kernel
theorem dL_comes_6 : decode cL_comes 6 = .ok (.iconst 1, 1) := by decide +kernel
theorem dL_comes_7 : decode cL_comes 7 = .ok (.iload 4, 2) := by decide +kernel
theorem dL_comes_9 : decode cL_comes 9 = .ok (.iconst 3, 1) := by decide +kernel
theorem dL_comes_10 : decode cL_comes 10 = .ok (.idiv, 1) := by decide +kernel
theorem dL_comes_11 : decode cL_comes 11 = .ok (.iconst 4, 1) := by decide +kernel
theorem dL_comes_12 : decode cL_comes 12 = .ok (.irem, 1) := by decide +kernel
theorem dL_comes_13 : decode cL_comes 13 = .ok (.iadd, 1) := by decide +kernel
theorem dL_comes_14 : decode cL_comes 14 = .ok (.istore 6, 2) := by decide +kernel
theorem dL_comes_16 : decode cL_comes 16 = .ok (.iconst 1, 1) := by decide +kernel
theorem dL_comes_17 : decode cL_comes 17 = .ok (.iload 4, 2) := by decide +kernel
theorem dL_comes_19 : decode cL_comes 19 = .ok (.bipush 12, 2) := by decide +kernel
theorem dL_comes_21 : decode cL_comes 21 = .ok (.idiv, 1) := by decide +kernel
theorem dL_comes_22 : decode cL_comes 22 = .ok (.iload 4, 2) := by decide +kernel
theorem dL_comes_24 : decode cL_comes 24 = .ok (.iconst 5, 1) := by decide +kernel
theorem dL_comes_25 : decode cL_comes 25 = .ok (.irem, 1) := by decide +kernel
theorem dL_comes_26 : decode cL_comes 26 = .ok (.ifCond .ne 8, 3) := by decide +kernel
theorem dL_comes_29 : decode cL_comes 29 = .ok (.bipush 50, 2) := by decide +kernel
theorem dL_comes_31 : decode cL_comes 31 = .ok (.goto 5, 3) := by decide +kernel
theorem dL_comes_34 : decode cL_comes 34 = .ok (.bipush 9, 2) := by decide +kernel
theorem dL_comes_36 : decode cL_comes 36 = .ok (.irem, 1) := by decide +kernel
theorem dL_comes_37 : decode cL_comes 37 = .ok (.iadd, 1) := by decide +kernel
theorem dL_comes_38 : decode cL_comes 38 = .ok (.istore 7, 2) := by decide +kernel
theorem dL_comes_40 : decode cL_comes 40 = .ok (.iload 5, 2) := by decide +kernel
theorem dL_comes_42 : decode cL_comes 42 = .ok (.iconst 2, 1) := by decide +kernel
theorem dL_comes_43 : decode cL_comes 43 = .ok (.if_icmp .eq 9, 3) := by decide +kernel
theorem dL_comes_46 : decode cL_comes 46 = .ok (.iload 6, 2) := by decide +kernel
theorem dL_comes_48 : decode cL_comes 48 = .ok (.iconst 1, 1) := by decide +kernel
theorem dL_comes_49 : decode cL_comes 49 = .ok (.if_icmp .le 28, 3) := by decide +kernel
theorem dL_comes_52 : decode cL_comes 52 = .ok (.iconst 1, 1) := by decide +kernel
theorem dL_comes_53 : decode cL_comes 53 = .ok (.iload 4, 2) := by decide +kernel
theorem dL_comes_55 : decode cL_comes 55 = .ok (.bipush 7, 2) := by decide +kernel
theorem dL_comes_57 : decode cL_comes 57 = .ok (.idiv, 1) := by decide +kernel
theorem dL_comes_58 : decode cL_comes 58 = .ok (.iload 4, 2) := by decide +kernel
theorem dL_comes_60 : decode cL_comes 60 = .ok (.iconst 4, 1) := by decide +kernel
theorem dL_comes_61 : decode cL_comes 61 = .ok (.irem, 1) := by decide +kernel
theorem dL_comes_62 : decode cL_comes 62 = .ok (.ifCond .ne 8, 3) := by decide +kernel
theorem dL_comes_65 : decode cL_comes 65 = .ok (.bipush 50, 2) := by decide +kernel
theorem dL_comes_67 : decode cL_comes 67 = .ok (.goto 5, 3) := by decide +kernel
theorem dL_comes_70 : decode cL_comes 70 = .ok (.bipush 6, 2) := by decide +kernel
theorem dL_comes_72 : decode cL_comes 72 = .ok (.irem, 1) := by decide +kernel
theorem dL_comes_73 : decode cL_comes 73 = .ok (.iadd, 1) := by decide +kernel
theorem dL_comes_74 : decode cL_comes 74 = .ok (.goto 4, 3) := by decide +kernel
theorem dL_comes_77 : decode cL_comes 77 = .ok (.iconst 0, 1) := by decide +kernel
theorem dL_comes_78 : decode cL_comes 78 = .ok (.istore 8, 2) := by decide +kernel
theorem dL_comes_80 : decode cL_comes 80 = .ok (.iload 5, 2) := by decide +kernel
theorem dL_comes_82 : decode cL_comes 82 = .ok (.iconst 2, 1) := by decide +kernel
theorem dL_comes_83 : decode cL_comes 83 = .ok (.if_icmp .ge 22, 3) := by decide +kernel
theorem dL_comes_86 : decode cL_comes 86 = .ok (.iload 6, 2) := by decide +kernel
theorem dL_comes_88 : decode cL_comes 88 = .ok (.iconst 3, 1) := by decide +kernel
theorem dL_comes_89 : decode cL_comes 89 = .ok (.if_icmp .le 16, 3) := by decide +kernel
theorem dL_comes_92 : decode cL_comes 92 = .ok (.iconst 1, 1) := by decide +kernel
theorem dL_comes_93 : decode cL_comes 93 = .ok (.iload 4, 2) := by decide +kernel
theorem dL_comes_95 : decode cL_comes 95 = .ok (.bipush 11, 2) := by decide +kernel
theorem dL_comes_97 : decode cL_comes 97 = .ok (.idiv, 1) := by decide +kernel
theorem dL_comes_98 : decode cL_comes 98 = .ok (.bipush 20, 2) := by decide +kernel
theorem dL_comes_100 : decode cL_comes 100 = .ok (.irem, 1) := by decide +kernel
theorem dL_comes_101 : decode cL_comes 101 = .ok (.iadd, 1) := by decide +kernel
theorem dL_comes_102 : decode cL_comes 102 = .ok (.goto 4, 3) := by decide +kernel
theorem dL_comes_105 : decode cL_comes 105 = .ok (.iconst 0, 1) := by decide +kernel
theorem dL_comes_106 : decode cL_comes 106 = .ok (.istore 9, 2) := by decide +kernel
theorem dL_comes_108 : decode cL_comes 108 = .ok (.iload 5, 2) := by decide +kernel
theorem dL_comes_110 : decode cL_comes 110 = .ok (.iconst 2, 1) := by decide +kernel
theorem dL_comes_111 : decode cL_comes 111 = .ok (.if_icmp .eq 9, 3) := by decide +kernel
theorem dL_comes_114 : decode cL_comes 114 = .ok (.iload 6, 2) := by decide +kernel
theorem dL_comes_116 : decode cL_comes 116 = .ok (.iconst 2, 1) := by decide +kernel
theorem dL_comes_117 : decode cL_comes 117 = .ok (.if_icmp .le 28, 3) := by decide +kernel
theorem dL_comes_120 : decode cL_comes 120 = .ok (.iconst 1, 1) := by decide +kernel
theorem dL_comes_121 : decode cL_comes 121 = .ok (.iload 4, 2) := by decide +kernel
theorem dL_comes_123 : decode cL_comes 123 = .ok (.iconst 5, 1) := by decide +kernel
theorem dL_comes_124 : decode cL_comes 124 = .ok (.idiv, 1) := by decide +kernel
theorem dL_comes_125 : decode cL_comes 125 = .ok (.iload 4, 2) := by decide +kernel
theorem dL_comes_127 : decode cL_comes 127 = .ok (.bipush 6, 2) := by decide +kernel
theorem dL_comes_129 : decode cL_comes 129 = .ok (.irem, 1) := by decide +kernel
theorem dL_comes_130 : decode cL_comes 130 = .ok (.ifCond .ne 8, 3) := by decide +kernel
theorem dL_comes_133 : decode cL_comes 133 = .ok (.bipush 50, 2) := by decide +kernel
theorem dL_comes_135 : decode cL_comes 135 = .ok (.goto 5, 3) := by decide +kernel
theorem dL_comes_138 : decode cL_comes 138 = .ok (.bipush 12, 2) := by decide +kernel
theorem dL_comes_140 : decode cL_comes 140 = .ok (.irem, 1) := by decide +kernel
theorem dL_comes_141 : decode cL_comes 141 = .ok (.iadd, 1) := by decide +kernel
theorem dL_comes_142 : decode cL_comes 142 = .ok (.goto 4, 3) := by decide +kernel
theorem dL_comes_145 : decode cL_comes 145 = .ok (.iconst 0, 1) := by decide +kernel
theorem dL_comes_146 : decode cL_comes 146 = .ok (.istore 10, 2) := by decide +kernel
theorem dL_comes_148 : decode cL_comes 148 = .ok (.aload_n 1, 1) := by decide +kernel
theorem dL_comes_149 : decode cL_comes 149 = .ok (.iconst 0, 1) := by decide +kernel
theorem dL_comes_150 : decode cL_comes 150 = .ok (.iaload, 1) := by decide +kernel
theorem dL_comes_151 : decode cL_comes 151 = .ok (.bipush 6, 2) := by decide +kernel
theorem dL_comes_153 : decode cL_comes 153 = .ok (.if_icmp .ne 28, 3) := by decide +kernel
theorem dL_comes_156 : decode cL_comes 156 = .ok (.aload_n 0, 1) := by decide +kernel
theorem dL_comes_157 : decode cL_comes 157 = .ok (.iload 5, 2) := by decide +kernel
theorem dL_comes_159 : decode cL_comes 159 = .ok (.iload 7, 2) := by decide +kernel
theorem dL_comes_161 : decode cL_comes 161 = .ok (.iload 8, 2) := by decide +kernel
theorem dL_comes_163 : decode cL_comes 163 = .ok (.iload 10, 2) := by decide +kernel
theorem dL_comes_165 : decode cL_comes 165 = .ok (.iload 9, 2) := by decide +kernel
theorem dL_comes_167 : decode cL_comes 167 = .ok (.invokevirtual 27, 3) := by decide +kernel
theorem dL_comes_170 : decode cL_comes 170 = .ok (.ldc 33, 2) := by decide +kernel
theorem dL_comes_172 : decode cL_comes 172 = .ok (.if_icmp .ne 7, 3) := by decide +kernel
theorem dL_comes_175 : decode cL_comes 175 = .ok (.iconst 1, 1) := by decide +kernel
theorem dL_comes_176 : decode cL_comes 176 = .ok (.goto 4, 3) := by decide +kernel
theorem dL_comes_179 : decode cL_comes 179 = .ok (.iconst 0, 1) := by decide +kernel
theorem dL_comes_180 : decode cL_comes 180 = .ok (.ireturn, 1) := by decide +kernel
theorem dL_comes_181 : decode cL_comes 181 = .ok (.bipush 8, 2) := by decide +kernel
theorem dL_comes_183 : decode cL_comes 183 = .ok (.aload_n 1, 1) := by decide +kernel
theorem dL_comes_184 : decode cL_comes 184 = .ok (.iconst 0, 1) := by decide +kernel
theorem dL_comes_185 : decode cL_comes 185 = .ok (.iaload, 1) := by decide +kernel
theorem dL_comes_186 : decode cL_comes 186 = .ok (.imul, 1) := by decide +kernel
theorem dL_comes_187 : decode cL_comes 187 = .ok (.istore 11, 2) := by decide +kernel
theorem dL_comes_189 : decode cL_comes 189 = .ok (.aload_n 2, 1) := by decide +kernel
theorem dL_comes_190 : decode cL_comes 190 = .ok (.iload 11, 2) := by decide +kernel
theorem dL_comes_192 : decode cL_comes 192 = .ok (.iload 5, 2) := by decide +kernel
theorem dL_comes_194 : decode cL_comes 194 = .ok (.iastore, 1) := by decide +kernel
theorem dL_comes_195 : decode cL_comes 195 = .ok (.aload_n 2, 1) := by decide +kernel
theorem dL_comes_196 : decode cL_comes 196 = .ok (.iload 11, 2) := by decide +kernel
theorem dL_comes_198 : decode cL_comes 198 = .ok (.iconst 1, 1) := by decide +kernel
theorem dL_comes_199 : decode cL_comes 199 = .ok (.iadd, 1) := by decide +kernel
theorem dL_comes_200 : decode cL_comes 200 = .ok (.iload 7, 2) := by decide +kernel
theorem dL_comes_202 : decode cL_comes 202 = .ok (.iastore, 1) := by decide +kernel
theorem dL_comes_203 : decode cL_comes 203 = .ok (.aload_n 2, 1) := by decide +kernel
theorem dL_comes_204 : decode cL_comes 204 = .ok (.iload 11, 2) := by decide +kernel
theorem dL_comes_206 : decode cL_comes 206 = .ok (.iconst 2, 1) := by decide +kernel
theorem dL_comes_207 : decode cL_comes 207 = .ok (.iadd, 1) := by decide +kernel
theorem dL_comes_208 : decode cL_comes 208 = .ok (.iload 8, 2) := by decide +kernel
theorem dL_comes_210 : decode cL_comes 210 = .ok (.iastore, 1) := by decide +kernel
theorem dL_comes_211 : decode cL_comes 211 = .ok (.aload_n 2, 1) := by decide +kernel
theorem dL_comes_212 : decode cL_comes 212 = .ok (.iload 11, 2) := by decide +kernel
theorem dL_comes_214 : decode cL_comes 214 = .ok (.iconst 3, 1) := by decide +kernel
theorem dL_comes_215 : decode cL_comes 215 = .ok (.iadd, 1) := by decide +kernel
theorem dL_comes_216 : decode cL_comes 216 = .ok (.iload 10, 2) := by decide +kernel
theorem dL_comes_218 : decode cL_comes 218 = .ok (.iastore, 1) := by decide +kernel
theorem dL_comes_219 : decode cL_comes 219 = .ok (.aload_n 2, 1) := by decide +kernel
theorem dL_comes_220 : decode cL_comes 220 = .ok (.iload 11, 2) := by decide +kernel
theorem dL_comes_222 : decode cL_comes 222 = .ok (.iconst 4, 1) := by decide +kernel
theorem dL_comes_223 : decode cL_comes 223 = .ok (.iadd, 1) := by decide +kernel
theorem dL_comes_224 : decode cL_comes 224 = .ok (.iload 9, 2) := by decide +kernel
theorem dL_comes_226 : decode cL_comes 226 = .ok (.iastore, 1) := by decide +kernel
theorem dL_comes_227 : decode cL_comes 227 = .ok (.iconst 0, 1) := by decide +kernel
theorem dL_comes_228 : decode cL_comes 228 = .ok (.istore 12, 2) := by decide +kernel
theorem dL_comes_230 : decode cL_comes 230 = .ok (.iload 12, 2) := by decide +kernel
theorem dL_comes_232 : decode cL_comes 232 = .ok (.bipush 7, 2) := by decide +kernel
theorem dL_comes_234 : decode cL_comes 234 = .ok (.if_icmp .ge 21, 3) := by decide +kernel
theorem dL_comes_237 : decode cL_comes 237 = .ok (.aload_n 3, 1) := by decide +kernel
theorem dL_comes_238 : decode cL_comes 238 = .ok (.bipush 7, 2) := by decide +kernel
theorem dL_comes_240 : decode cL_comes 240 = .ok (.aload_n 1, 1) := by decide +kernel
theorem dL_comes_241 : decode cL_comes 241 = .ok (.iconst 0, 1) := by decide +kernel
theorem dL_comes_242 : decode cL_comes 242 = .ok (.iaload, 1) := by decide +kernel
theorem dL_comes_243 : decode cL_comes 243 = .ok (.imul, 1) := by decide +kernel
theorem dL_comes_244 : decode cL_comes 244 = .ok (.iload 12, 2) := by decide +kernel
theorem dL_comes_246 : decode cL_comes 246 = .ok (.iadd, 1) := by decide +kernel
theorem dL_comes_247 : decode cL_comes 247 = .ok (.iconst 0, 1) := by decide +kernel
theorem dL_comes_248 : decode cL_comes 248 = .ok (.iastore, 1) := by decide +kernel
theorem dL_comes_249 : decode cL_comes 249 = .ok (.iinc 12 1, 3) := by decide +kernel
theorem dL_comes_252 : decode cL_comes 252 = .ok (.goto (-22), 3) := by decide +kernel
theorem dL_comes_255 : decode cL_comes 255 = .ok (.aload_n 2, 1) := by decide +kernel
theorem dL_comes_256 : decode cL_comes 256 = .ok (.iload 11, 2) := by decide +kernel
theorem dL_comes_258 : decode cL_comes 258 = .ok (.iconst 5, 1) := by decide +kernel
theorem dL_comes_259 : decode cL_comes 259 = .ok (.iadd, 1) := by decide +kernel
theorem dL_comes_260 : decode cL_comes 260 = .ok (.aload_n 2, 1) := by decide +kernel
theorem dL_comes_261 : decode cL_comes 261 = .ok (.aload_n 1, 1) := by decide +kernel
theorem dL_comes_262 : decode cL_comes 262 = .ok (.iconst 0, 1) := by decide +kernel
theorem dL_comes_263 : decode cL_comes 263 = .ok (.iaload, 1) := by decide +kernel
theorem dL_comes_264 : decode cL_comes 264 = .ok (.invokestatic 9, 3) := by decide +kernel
theorem dL_comes_267 : decode cL_comes 267 = .ok (.iconst 1, 1) := by decide +kernel
theorem dL_comes_268 : decode cL_comes 268 = .ok (.isub, 1) := by decide +kernel
theorem dL_comes_269 : decode cL_comes 269 = .ok (.iastore, 1) := by decide +kernel
theorem dL_comes_270 : decode cL_comes 270 = .ok (.aload_n 1, 1) := by decide +kernel
theorem dL_comes_271 : decode cL_comes 271 = .ok (.aload_n 2, 1) := by decide +kernel
theorem dL_comes_272 : decode cL_comes 272 = .ok (.aload_n 1, 1) := by decide +kernel
theorem dL_comes_273 : decode cL_comes 273 = .ok (.iconst 0, 1) := by decide +kernel
theorem dL_comes_274 : decode cL_comes 274 = .ok (.iaload, 1) := by decide +kernel
theorem dL_comes_275 : decode cL_comes 275 = .ok (.invokestatic 19, 3) := by decide +kernel
theorem dL_comes_278 : decode cL_comes 278 = .ok (.aload_n 1, 1) := by decide +kernel
theorem dL_comes_279 : decode cL_comes 279 = .ok (.iconst 0, 1) := by decide +kernel
theorem dL_comes_280 : decode cL_comes 280 = .ok (.dup2, 1) := by decide +kernel
theorem dL_comes_281 : decode cL_comes 281 = .ok (.iaload, 1) := by decide +kernel
theorem dL_comes_282 : decode cL_comes 282 = .ok (.iconst 1, 1) := by decide +kernel
theorem dL_comes_283 : decode cL_comes 283 = .ok (.iadd, 1) := by decide +kernel
theorem dL_comes_284 : decode cL_comes 284 = .ok (.iastore, 1) := by decide +kernel
theorem dL_comes_285 : decode cL_comes 285 = .ok (.aload_n 0, 1) := by decide +kernel
theorem dL_comes_286 : decode cL_comes 286 = .ok (.iload 5, 2) := by decide +kernel
theorem dL_comes_288 : decode cL_comes 288 = .ok (.iload 7, 2) := by decide +kernel
theorem dL_comes_290 : decode cL_comes 290 = .ok (.iload 8, 2) := by decide +kernel
theorem dL_comes_292 : decode cL_comes 292 = .ok (.iload 10, 2) := by decide +kernel
theorem dL_comes_294 : decode cL_comes 294 = .ok (.iload 9, 2) := by decide +kernel
theorem dL_comes_296 : decode cL_comes 296 = .ok (.invokevirtual 27, 3) := by decide +kernel
theorem dL_comes_299 : decode cL_comes 299 = .ok (.aload_n 1, 1) := by decide +kernel
theorem dL_comes_300 : decode cL_comes 300 = .ok (.iconst 0, 1) := by decide +kernel
theorem dL_comes_301 : decode cL_comes 301 = .ok (.iaload, 1) := by decide +kernel
theorem dL_comes_302 : decode cL_comes 302 = .ok (.iconst 1, 1) := by decide +kernel
theorem dL_comes_303 : decode cL_comes 303 = .ok (.isub, 1) := by decide +kernel
theorem dL_comes_304 : decode cL_comes 304 = .ok (.if_icmp .ne 7, 3) := by decide +kernel
theorem dL_comes_307 : decode cL_comes 307 = .ok (.iconst 1, 1) := by decide +kernel
theorem dL_comes_308 : decode cL_comes 308 = .ok (.goto 4, 3) := by decide +kernel
theorem dL_comes_311 : decode cL_comes 311 = .ok (.iconst 0, 1) := by decide +kernel
theorem dL_comes_312 : decode cL_comes 312 = .ok (.ireturn, 1) := by decide +kernel
theorem dL_joins_0 : decode cL_joins 0 = .ok (.iload 4, 2) := by decide +kernel
theorem dL_joins_2 : decode cL_joins 2 = .ok (.bipush 12, 2) := by decide +kernel
theorem dL_joins_4 : decode cL_joins 4 = .ok (.if_icmp .ge 99, 3) := by decide +kernel
theorem dL_joins_7 : decode cL_joins 7 = .ok (.iload 5, 2) := by decide +kernel
theorem dL_joins_9 : decode cL_joins 9 = .ok (.iconst 3, 1) := by decide +kernel
theorem dL_joins_10 : decode cL_joins 10 = .ok (.irem, 1) := by decide +kernel
theorem dL_joins_11 : decode cL_joins 11 = .ok (.istore 6, 2) := by decide +kernel
theorem dL_joins_13 : decode cL_joins 13 = .ok (.aload_n 1, 1) := by decide +kernel
theorem dL_joins_14 : decode cL_joins 14 = .ok (.iconst 1, 1) := by decide +kernel
theorem dL_joins_15 : decode cL_joins 15 = .ok (.iaload, 1) := by decide +kernel
theorem dL_joins_16 : decode cL_joins 16 = .ok (.iconst 4, 1) := by decide +kernel
theorem dL_joins_17 : decode cL_joins 17 = .ok (.if_icmp .ne 20, 3) := by decide +kernel
theorem dL_joins_20 : decode cL_joins 20 = .ok (.aload_n 0, 1) := by decide +kernel
theorem dL_joins_21 : decode cL_joins 21 = .ok (.iload 6, 2) := by decide +kernel
theorem dL_joins_23 : decode cL_joins 23 = .ok (.invokevirtual 34, 3) := by decide +kernel
theorem dL_joins_26 : decode cL_joins 26 = .ok (.ldc 33, 2) := by decide +kernel
theorem dL_joins_28 : decode cL_joins 28 = .ok (.if_icmp .ne 7, 3) := by decide +kernel
theorem dL_joins_31 : decode cL_joins 31 = .ok (.iconst 1, 1) := by decide +kernel
theorem dL_joins_32 : decode cL_joins 32 = .ok (.goto 4, 3) := by decide +kernel
theorem dL_joins_35 : decode cL_joins 35 = .ok (.iconst 0, 1) := by decide +kernel
theorem dL_joins_36 : decode cL_joins 36 = .ok (.ireturn, 1) := by decide +kernel
theorem dL_joins_37 : decode cL_joins 37 = .ok (.aload_n 3, 1) := by decide +kernel
theorem dL_joins_38 : decode cL_joins 38 = .ok (.iconst 4, 1) := by decide +kernel
theorem dL_joins_39 : decode cL_joins 39 = .ok (.aload_n 1, 1) := by decide +kernel
theorem dL_joins_40 : decode cL_joins 40 = .ok (.iconst 1, 1) := by decide +kernel
theorem dL_joins_41 : decode cL_joins 41 = .ok (.iaload, 1) := by decide +kernel
theorem dL_joins_42 : decode cL_joins 42 = .ok (.imul, 1) := by decide +kernel
theorem dL_joins_43 : decode cL_joins 43 = .ok (.iload 6, 2) := by decide +kernel
theorem dL_joins_45 : decode cL_joins 45 = .ok (.iastore, 1) := by decide +kernel
theorem dL_joins_46 : decode cL_joins 46 = .ok (.aload_n 3, 1) := by decide +kernel
theorem dL_joins_47 : decode cL_joins 47 = .ok (.iconst 4, 1) := by decide +kernel
theorem dL_joins_48 : decode cL_joins 48 = .ok (.aload_n 1, 1) := by decide +kernel
theorem dL_joins_49 : decode cL_joins 49 = .ok (.iconst 1, 1) := by decide +kernel
theorem dL_joins_50 : decode cL_joins 50 = .ok (.iaload, 1) := by decide +kernel
theorem dL_joins_51 : decode cL_joins 51 = .ok (.imul, 1) := by decide +kernel
theorem dL_joins_52 : decode cL_joins 52 = .ok (.iconst 1, 1) := by decide +kernel
theorem dL_joins_53 : decode cL_joins 53 = .ok (.iadd, 1) := by decide +kernel
theorem dL_joins_54 : decode cL_joins 54 = .ok (.iconst 0, 1) := by decide +kernel
theorem dL_joins_55 : decode cL_joins 55 = .ok (.iastore, 1) := by decide +kernel
theorem dL_joins_56 : decode cL_joins 56 = .ok (.aload_n 3, 1) := by decide +kernel
theorem dL_joins_57 : decode cL_joins 57 = .ok (.iconst 4, 1) := by decide +kernel
theorem dL_joins_58 : decode cL_joins 58 = .ok (.aload_n 1, 1) := by decide +kernel
theorem dL_joins_59 : decode cL_joins 59 = .ok (.iconst 1, 1) := by decide +kernel
theorem dL_joins_60 : decode cL_joins 60 = .ok (.iaload, 1) := by decide +kernel
theorem dL_joins_61 : decode cL_joins 61 = .ok (.imul, 1) := by decide +kernel
theorem dL_joins_62 : decode cL_joins 62 = .ok (.iconst 2, 1) := by decide +kernel
theorem dL_joins_63 : decode cL_joins 63 = .ok (.iadd, 1) := by decide +kernel
theorem dL_joins_64 : decode cL_joins 64 = .ok (.iconst 0, 1) := by decide +kernel
theorem dL_joins_65 : decode cL_joins 65 = .ok (.iastore, 1) := by decide +kernel
theorem dL_joins_66 : decode cL_joins 66 = .ok (.aload_n 3, 1) := by decide +kernel
theorem dL_joins_67 : decode cL_joins 67 = .ok (.iconst 4, 1) := by decide +kernel
theorem dL_joins_68 : decode cL_joins 68 = .ok (.aload_n 1, 1) := by decide +kernel
theorem dL_joins_69 : decode cL_joins 69 = .ok (.iconst 1, 1) := by decide +kernel
theorem dL_joins_70 : decode cL_joins 70 = .ok (.iaload, 1) := by decide +kernel
theorem dL_joins_71 : decode cL_joins 71 = .ok (.imul, 1) := by decide +kernel
theorem dL_joins_72 : decode cL_joins 72 = .ok (.iconst 3, 1) := by decide +kernel
theorem dL_joins_73 : decode cL_joins 73 = .ok (.iadd, 1) := by decide +kernel
theorem dL_joins_74 : decode cL_joins 74 = .ok (.iconst 0, 1) := by decide +kernel
theorem dL_joins_75 : decode cL_joins 75 = .ok (.iastore, 1) := by decide +kernel
theorem dL_joins_76 : decode cL_joins 76 = .ok (.aload_n 1, 1) := by decide +kernel
theorem dL_joins_77 : decode cL_joins 77 = .ok (.iconst 1, 1) := by decide +kernel
theorem dL_joins_78 : decode cL_joins 78 = .ok (.dup2, 1) := by decide +kernel
theorem dL_joins_79 : decode cL_joins 79 = .ok (.iaload, 1) := by decide +kernel
theorem dL_joins_80 : decode cL_joins 80 = .ok (.iconst 1, 1) := by decide +kernel
theorem dL_joins_81 : decode cL_joins 81 = .ok (.iadd, 1) := by decide +kernel
theorem dL_joins_82 : decode cL_joins 82 = .ok (.iastore, 1) := by decide +kernel
theorem dL_joins_83 : decode cL_joins 83 = .ok (.aload_n 0, 1) := by decide +kernel
theorem dL_joins_84 : decode cL_joins 84 = .ok (.iload 6, 2) := by decide +kernel
theorem dL_joins_86 : decode cL_joins 86 = .ok (.invokevirtual 34, 3) := by decide +kernel
theorem dL_joins_89 : decode cL_joins 89 = .ok (.aload_n 1, 1) := by decide +kernel
theorem dL_joins_90 : decode cL_joins 90 = .ok (.iconst 1, 1) := by decide +kernel
theorem dL_joins_91 : decode cL_joins 91 = .ok (.iaload, 1) := by decide +kernel
theorem dL_joins_92 : decode cL_joins 92 = .ok (.iconst 1, 1) := by decide +kernel
theorem dL_joins_93 : decode cL_joins 93 = .ok (.isub, 1) := by decide +kernel
theorem dL_joins_94 : decode cL_joins 94 = .ok (.if_icmp .ne 7, 3) := by decide +kernel
theorem dL_joins_97 : decode cL_joins 97 = .ok (.iconst 1, 1) := by decide +kernel
theorem dL_joins_98 : decode cL_joins 98 = .ok (.goto 4, 3) := by decide +kernel
theorem dL_joins_101 : decode cL_joins 101 = .ok (.iconst 0, 1) := by decide +kernel
theorem dL_joins_102 : decode cL_joins 102 = .ok (.ireturn, 1) := by decide +kernel
theorem dL_joins_103 : decode cL_joins 103 = .ok (.aload_n 1, 1) := by decide +kernel
theorem dL_joins_104 : decode cL_joins 104 = .ok (.iconst 1, 1) := by decide +kernel
theorem dL_joins_105 : decode cL_joins 105 = .ok (.iaload, 1) := by decide +kernel
theorem dL_joins_106 : decode cL_joins 106 = .ok (.ifCond .ne 31, 3) := by decide +kernel
theorem dL_joins_109 : decode cL_joins 109 = .ok (.aload_n 0, 1) := by decide +kernel
theorem dL_joins_110 : decode cL_joins 110 = .ok (.iconst 0, 1) := by decide +kernel
theorem dL_joins_111 : decode cL_joins 111 = .ok (.iconst 0, 1) := by decide +kernel
theorem dL_joins_112 : decode cL_joins 112 = .ok (.invokevirtual 37, 3) := by decide +kernel
theorem dL_joins_115 : decode cL_joins 115 = .ok (.ldc 41, 2) := by decide +kernel
theorem dL_joins_117 : decode cL_joins 117 = .ok (.if_icmp .ne 18, 3) := by decide +kernel
theorem dL_joins_120 : decode cL_joins 120 = .ok (.aload_n 0, 1) := by decide +kernel
theorem dL_joins_121 : decode cL_joins 121 = .ok (.iconst 0, 1) := by decide +kernel
theorem dL_joins_122 : decode cL_joins 122 = .ok (.iconst 0, 1) := by decide +kernel
theorem dL_joins_123 : decode cL_joins 123 = .ok (.invokevirtual 42, 3) := by decide +kernel
theorem dL_joins_126 : decode cL_joins 126 = .ok (.ldc 41, 2) := by decide +kernel
theorem dL_joins_128 : decode cL_joins 128 = .ok (.if_icmp .ne 7, 3) := by decide +kernel
theorem dL_joins_131 : decode cL_joins 131 = .ok (.iconst 1, 1) := by decide +kernel
theorem dL_joins_132 : decode cL_joins 132 = .ok (.goto 4, 3) := by decide +kernel
theorem dL_joins_135 : decode cL_joins 135 = .ok (.iconst 0, 1) := by decide +kernel
theorem dL_joins_136 : decode cL_joins 136 = .ok (.ireturn, 1) := by decide +kernel
theorem dL_joins_137 : decode cL_joins 137 = .ok (.iload 5, 2) := by decide +kernel
theorem dL_joins_139 : decode cL_joins 139 = .ok (.aload_n 1, 1) := by decide +kernel
theorem dL_joins_140 : decode cL_joins 140 = .ok (.iconst 1, 1) := by decide +kernel
theorem dL_joins_141 : decode cL_joins 141 = .ok (.iaload, 1) := by decide +kernel
theorem dL_joins_142 : decode cL_joins 142 = .ok (.irem, 1) := by decide +kernel
theorem dL_joins_143 : decode cL_joins 143 = .ok (.istore 6, 2) := by decide +kernel
theorem dL_joins_145 : decode cL_joins 145 = .ok (.iload 5, 2) := by decide +kernel
theorem dL_joins_147 : decode cL_joins 147 = .ok (.iconst 4, 1) := by decide +kernel
theorem dL_joins_148 : decode cL_joins 148 = .ok (.idiv, 1) := by decide +kernel
theorem dL_joins_149 : decode cL_joins 149 = .ok (.aload_n 1, 1) := by decide +kernel
theorem dL_joins_150 : decode cL_joins 150 = .ok (.iconst 0, 1) := by decide +kernel
theorem dL_joins_151 : decode cL_joins 151 = .ok (.iaload, 1) := by decide +kernel
theorem dL_joins_152 : decode cL_joins 152 = .ok (.irem, 1) := by decide +kernel
theorem dL_joins_153 : decode cL_joins 153 = .ok (.istore 7, 2) := by decide +kernel
theorem dL_joins_155 : decode cL_joins 155 = .ok (.iconst 0, 1) := by decide +kernel
theorem dL_joins_156 : decode cL_joins 156 = .ok (.istore 8, 2) := by decide +kernel
theorem dL_joins_158 : decode cL_joins 158 = .ok (.iload 8, 2) := by decide +kernel
theorem dL_joins_160 : decode cL_joins 160 = .ok (.bipush 6, 2) := by decide +kernel
theorem dL_joins_162 : decode cL_joins 162 = .ok (.if_icmp .ge 49, 3) := by decide +kernel
theorem dL_joins_165 : decode cL_joins 165 = .ok (.iload 4, 2) := by decide +kernel
theorem dL_joins_167 : decode cL_joins 167 = .ok (.bipush 18, 2) := by decide +kernel
theorem dL_joins_169 : decode cL_joins 169 = .ok (.if_icmp .ge 42, 3) := by decide +kernel
theorem dL_joins_172 : decode cL_joins 172 = .ok (.iload 5, 2) := by decide +kernel
theorem dL_joins_174 : decode cL_joins 174 = .ok (.iconst 5, 1) := by decide +kernel
theorem dL_joins_175 : decode cL_joins 175 = .ok (.irem, 1) := by decide +kernel
theorem dL_joins_176 : decode cL_joins 176 = .ok (.ifCond .le 35, 3) := by decide +kernel
theorem dL_joins_179 : decode cL_joins 179 = .ok (.aload_n 2, 1) := by decide +kernel
theorem dL_joins_180 : decode cL_joins 180 = .ok (.bipush 8, 2) := by decide +kernel
theorem dL_joins_182 : decode cL_joins 182 = .ok (.iload 7, 2) := by decide +kernel
theorem dL_joins_184 : decode cL_joins 184 = .ok (.imul, 1) := by decide +kernel
theorem dL_joins_185 : decode cL_joins 185 = .ok (.iaload, 1) := by decide +kernel
theorem dL_joins_186 : decode cL_joins 186 = .ok (.aload_n 3, 1) := by decide +kernel
theorem dL_joins_187 : decode cL_joins 187 = .ok (.iconst 4, 1) := by decide +kernel
theorem dL_joins_188 : decode cL_joins 188 = .ok (.iload 6, 2) := by decide +kernel
theorem dL_joins_190 : decode cL_joins 190 = .ok (.imul, 1) := by decide +kernel
theorem dL_joins_191 : decode cL_joins 191 = .ok (.iaload, 1) := by decide +kernel
theorem dL_joins_192 : decode cL_joins 192 = .ok (.if_icmp .eq 19, 3) := by decide +kernel
theorem dL_joins_195 : decode cL_joins 195 = .ok (.iload 7, 2) := by decide +kernel
theorem dL_joins_197 : decode cL_joins 197 = .ok (.iconst 1, 1) := by decide +kernel
theorem dL_joins_198 : decode cL_joins 198 = .ok (.iadd, 1) := by decide +kernel
theorem dL_joins_199 : decode cL_joins 199 = .ok (.aload_n 1, 1) := by decide +kernel
theorem dL_joins_200 : decode cL_joins 200 = .ok (.iconst 0, 1) := by decide +kernel
theorem dL_joins_201 : decode cL_joins 201 = .ok (.iaload, 1) := by decide +kernel
theorem dL_joins_202 : decode cL_joins 202 = .ok (.irem, 1) := by decide +kernel
theorem dL_joins_203 : decode cL_joins 203 = .ok (.istore 7, 2) := by decide +kernel
theorem dL_joins_205 : decode cL_joins 205 = .ok (.iinc 8 1, 3) := by decide +kernel
theorem dL_joins_208 : decode cL_joins 208 = .ok (.goto (-50), 3) := by decide +kernel
theorem dL_joins_211 : decode cL_joins 211 = .ok (.aload_n 3, 1) := by decide +kernel
theorem dL_joins_212 : decode cL_joins 212 = .ok (.iconst 4, 1) := by decide +kernel
theorem dL_joins_213 : decode cL_joins 213 = .ok (.iload 6, 2) := by decide +kernel
theorem dL_joins_215 : decode cL_joins 215 = .ok (.imul, 1) := by decide +kernel
theorem dL_joins_216 : decode cL_joins 216 = .ok (.iconst 1, 1) := by decide +kernel
theorem dL_joins_217 : decode cL_joins 217 = .ok (.iadd, 1) := by decide +kernel
theorem dL_joins_218 : decode cL_joins 218 = .ok (.iaload, 1) := by decide +kernel
theorem dL_joins_219 : decode cL_joins 219 = .ok (.iconst 1, 1) := by decide +kernel
theorem dL_joins_220 : decode cL_joins 220 = .ok (.iload 7, 2) := by decide +kernel
theorem dL_joins_222 : decode cL_joins 222 = .ok (.ishl, 1) := by decide +kernel
theorem dL_joins_223 : decode cL_joins 223 = .ok (.iand, 1) := by decide +kernel
theorem dL_joins_224 : decode cL_joins 224 = .ok (.ifCond .le 7, 3) := by decide +kernel
theorem dL_joins_227 : decode cL_joins 227 = .ok (.iconst 1, 1) := by decide +kernel
theorem dL_joins_228 : decode cL_joins 228 = .ok (.goto 4, 3) := by decide +kernel
theorem dL_joins_231 : decode cL_joins 231 = .ok (.iconst 0, 1) := by decide +kernel
theorem dL_joins_232 : decode cL_joins 232 = .ok (.istore 8, 2) := by decide +kernel
theorem dL_joins_234 : decode cL_joins 234 = .ok (.aload_n 3, 1) := by decide +kernel
theorem dL_joins_235 : decode cL_joins 235 = .ok (.iconst 4, 1) := by decide +kernel
theorem dL_joins_236 : decode cL_joins 236 = .ok (.iload 6, 2) := by decide +kernel
theorem dL_joins_238 : decode cL_joins 238 = .ok (.imul, 1) := by decide +kernel
theorem dL_joins_239 : decode cL_joins 239 = .ok (.iconst 1, 1) := by decide +kernel
theorem dL_joins_240 : decode cL_joins 240 = .ok (.iadd, 1) := by decide +kernel
theorem dL_joins_241 : decode cL_joins 241 = .ok (.iaload, 1) := by decide +kernel
theorem dL_joins_242 : decode cL_joins 242 = .ok (.invokestatic 23, 3) := by decide +kernel
theorem dL_joins_245 : decode cL_joins 245 = .ok (.istore 9, 2) := by decide +kernel
theorem dL_joins_247 : decode cL_joins 247 = .ok (.iload 4, 2) := by decide +kernel
theorem dL_joins_249 : decode cL_joins 249 = .ok (.bipush 18, 2) := by decide +kernel
theorem dL_joins_251 : decode cL_joins 251 = .ok (.if_icmp .ge 111, 3) := by decide +kernel
theorem dL_joins_254 : decode cL_joins 254 = .ok (.iload 8, 2) := by decide +kernel
theorem dL_joins_256 : decode cL_joins 256 = .ok (.ifCond .ne 25, 3) := by decide +kernel
theorem dL_joins_259 : decode cL_joins 259 = .ok (.aload_n 2, 1) := by decide +kernel
theorem dL_joins_260 : decode cL_joins 260 = .ok (.bipush 8, 2) := by decide +kernel
theorem dL_joins_262 : decode cL_joins 262 = .ok (.iload 7, 2) := by decide +kernel
theorem dL_joins_264 : decode cL_joins 264 = .ok (.imul, 1) := by decide +kernel
theorem dL_joins_265 : decode cL_joins 265 = .ok (.iaload, 1) := by decide +kernel
theorem dL_joins_266 : decode cL_joins 266 = .ok (.aload_n 3, 1) := by decide +kernel
theorem dL_joins_267 : decode cL_joins 267 = .ok (.iconst 4, 1) := by decide +kernel
theorem dL_joins_268 : decode cL_joins 268 = .ok (.iload 6, 2) := by decide +kernel
theorem dL_joins_270 : decode cL_joins 270 = .ok (.imul, 1) := by decide +kernel
theorem dL_joins_271 : decode cL_joins 271 = .ok (.iaload, 1) := by decide +kernel
theorem dL_joins_272 : decode cL_joins 272 = .ok (.if_icmp .ne 9, 3) := by decide +kernel
theorem dL_joins_275 : decode cL_joins 275 = .ok (.iload 9, 2) := by decide +kernel
theorem dL_joins_277 : decode cL_joins 277 = .ok (.iconst 4, 1) := by decide +kernel
theorem dL_joins_278 : decode cL_joins 278 = .ok (.if_icmp .ne 48, 3) := by decide +kernel
theorem dL_joins_281 : decode cL_joins 281 = .ok (.aload_n 0, 1) := by decide +kernel
theorem dL_joins_282 : decode cL_joins 282 = .ok (.iload 6, 2) := by decide +kernel
theorem dL_joins_284 : decode cL_joins 284 = .ok (.iload 7, 2) := by decide +kernel
theorem dL_joins_286 : decode cL_joins 286 = .ok (.invokevirtual 37, 3) := by decide +kernel
theorem dL_joins_289 : decode cL_joins 289 = .ok (.iload 8, 2) := by decide +kernel
theorem dL_joins_291 : decode cL_joins 291 = .ok (.ifCond .ne 19, 3) := by decide +kernel
theorem dL_joins_294 : decode cL_joins 294 = .ok (.aload_n 2, 1) := by decide +kernel
theorem dL_joins_295 : decode cL_joins 295 = .ok (.bipush 8, 2) := by decide +kernel
theorem dL_joins_297 : decode cL_joins 297 = .ok (.iload 7, 2) := by decide +kernel
theorem dL_joins_299 : decode cL_joins 299 = .ok (.imul, 1) := by decide +kernel
theorem dL_joins_300 : decode cL_joins 300 = .ok (.iaload, 1) := by decide +kernel
theorem dL_joins_301 : decode cL_joins 301 = .ok (.aload_n 3, 1) := by decide +kernel
theorem dL_joins_302 : decode cL_joins 302 = .ok (.iconst 4, 1) := by decide +kernel
theorem dL_joins_303 : decode cL_joins 303 = .ok (.iload 6, 2) := by decide +kernel
theorem dL_joins_305 : decode cL_joins 305 = .ok (.imul, 1) := by decide +kernel
theorem dL_joins_306 : decode cL_joins 306 = .ok (.iaload, 1) := by decide +kernel
theorem dL_joins_307 : decode cL_joins 307 = .ok (.if_icmp .eq 8, 3) := by decide +kernel
theorem dL_joins_310 : decode cL_joins 310 = .ok (.ldc 45, 2) := by decide +kernel
theorem dL_joins_312 : decode cL_joins 312 = .ok (.goto 5, 3) := by decide +kernel
theorem dL_joins_315 : decode cL_joins 315 = .ok (.ldc 33, 2) := by decide +kernel
theorem dL_joins_317 : decode cL_joins 317 = .ok (.if_icmp .ne 7, 3) := by decide +kernel
theorem dL_joins_320 : decode cL_joins 320 = .ok (.iconst 1, 1) := by decide +kernel
theorem dL_joins_321 : decode cL_joins 321 = .ok (.goto 4, 3) := by decide +kernel
theorem dL_joins_324 : decode cL_joins 324 = .ok (.iconst 0, 1) := by decide +kernel
theorem dL_joins_325 : decode cL_joins 325 = .ok (.ireturn, 1) := by decide +kernel
theorem dL_joins_326 : decode cL_joins 326 = .ok (.aload_n 3, 1) := by decide +kernel
theorem dL_joins_327 : decode cL_joins 327 = .ok (.iconst 4, 1) := by decide +kernel
theorem dL_joins_328 : decode cL_joins 328 = .ok (.iload 6, 2) := by decide +kernel
theorem dL_joins_330 : decode cL_joins 330 = .ok (.imul, 1) := by decide +kernel
theorem dL_joins_331 : decode cL_joins 331 = .ok (.iconst 1, 1) := by decide +kernel
theorem dL_joins_332 : decode cL_joins 332 = .ok (.iadd, 1) := by decide +kernel
theorem dL_joins_333 : decode cL_joins 333 = .ok (.dup2, 1) := by decide +kernel
theorem dL_joins_334 : decode cL_joins 334 = .ok (.iaload, 1) := by decide +kernel
theorem dL_joins_335 : decode cL_joins 335 = .ok (.iconst 1, 1) := by decide +kernel
theorem dL_joins_336 : decode cL_joins 336 = .ok (.iload 7, 2) := by decide +kernel
theorem dL_joins_338 : decode cL_joins 338 = .ok (.ishl, 1) := by decide +kernel
theorem dL_joins_339 : decode cL_joins 339 = .ok (.iadd, 1) := by decide +kernel
theorem dL_joins_340 : decode cL_joins 340 = .ok (.iastore, 1) := by decide +kernel
theorem dL_joins_341 : decode cL_joins 341 = .ok (.aload_n 0, 1) := by decide +kernel
theorem dL_joins_342 : decode cL_joins 342 = .ok (.iload 6, 2) := by decide +kernel
theorem dL_joins_344 : decode cL_joins 344 = .ok (.iload 7, 2) := by decide +kernel
theorem dL_joins_346 : decode cL_joins 346 = .ok (.invokevirtual 37, 3) := by decide +kernel
theorem dL_joins_349 : decode cL_joins 349 = .ok (.iload 9, 2) := by decide +kernel
theorem dL_joins_351 : decode cL_joins 351 = .ok (.iconst 1, 1) := by decide +kernel
theorem dL_joins_352 : decode cL_joins 352 = .ok (.iadd, 1) := by decide +kernel
theorem dL_joins_353 : decode cL_joins 353 = .ok (.if_icmp .ne 7, 3) := by decide +kernel
theorem dL_joins_356 : decode cL_joins 356 = .ok (.iconst 1, 1) := by decide +kernel
theorem dL_joins_357 : decode cL_joins 357 = .ok (.goto 4, 3) := by decide +kernel
theorem dL_joins_360 : decode cL_joins 360 = .ok (.iconst 0, 1) := by decide +kernel
theorem dL_joins_361 : decode cL_joins 361 = .ok (.ireturn, 1) := by decide +kernel
theorem dL_joins_362 : decode cL_joins 362 = .ok (.iload 8, 2) := by decide +kernel
theorem dL_joins_364 : decode cL_joins 364 = .ok (.ifCond .ne 22, 3) := by decide +kernel
theorem dL_joins_367 : decode cL_joins 367 = .ok (.aload_n 0, 1) := by decide +kernel
theorem dL_joins_368 : decode cL_joins 368 = .ok (.iload 6, 2) := by decide +kernel
theorem dL_joins_370 : decode cL_joins 370 = .ok (.iload 7, 2) := by decide +kernel
theorem dL_joins_372 : decode cL_joins 372 = .ok (.invokevirtual 42, 3) := by decide +kernel
theorem dL_joins_375 : decode cL_joins 375 = .ok (.ldc 45, 2) := by decide +kernel
theorem dL_joins_377 : decode cL_joins 377 = .ok (.if_icmp .ne 7, 3) := by decide +kernel
theorem dL_joins_380 : decode cL_joins 380 = .ok (.iconst 1, 1) := by decide +kernel
theorem dL_joins_381 : decode cL_joins 381 = .ok (.goto 4, 3) := by decide +kernel
theorem dL_joins_384 : decode cL_joins 384 = .ok (.iconst 0, 1) := by decide +kernel
theorem dL_joins_385 : decode cL_joins 385 = .ok (.ireturn, 1) := by decide +kernel
theorem dL_joins_386 : decode cL_joins 386 = .ok (.aload_n 3, 1) := by decide +kernel
theorem dL_joins_387 : decode cL_joins 387 = .ok (.iconst 4, 1) := by decide +kernel
theorem dL_joins_388 : decode cL_joins 388 = .ok (.iload 6, 2) := by decide +kernel
theorem dL_joins_390 : decode cL_joins 390 = .ok (.imul, 1) := by decide +kernel
theorem dL_joins_391 : decode cL_joins 391 = .ok (.iconst 1, 1) := by decide +kernel
theorem dL_joins_392 : decode cL_joins 392 = .ok (.iadd, 1) := by decide +kernel
theorem dL_joins_393 : decode cL_joins 393 = .ok (.dup2, 1) := by decide +kernel
theorem dL_joins_394 : decode cL_joins 394 = .ok (.iaload, 1) := by decide +kernel
theorem dL_joins_395 : decode cL_joins 395 = .ok (.iconst 1, 1) := by decide +kernel
theorem dL_joins_396 : decode cL_joins 396 = .ok (.iload 7, 2) := by decide +kernel
theorem dL_joins_398 : decode cL_joins 398 = .ok (.ishl, 1) := by decide +kernel
theorem dL_joins_399 : decode cL_joins 399 = .ok (.isub, 1) := by decide +kernel
theorem dL_joins_400 : decode cL_joins 400 = .ok (.iastore, 1) := by decide +kernel
theorem dL_joins_401 : decode cL_joins 401 = .ok (.aload_n 0, 1) := by decide +kernel
theorem dL_joins_402 : decode cL_joins 402 = .ok (.iload 6, 2) := by decide +kernel
theorem dL_joins_404 : decode cL_joins 404 = .ok (.iload 7, 2) := by decide +kernel
theorem dL_joins_406 : decode cL_joins 406 = .ok (.invokevirtual 42, 3) := by decide +kernel
theorem dL_joins_409 : decode cL_joins 409 = .ok (.iload 9, 2) := by decide +kernel
theorem dL_joins_411 : decode cL_joins 411 = .ok (.iconst 1, 1) := by decide +kernel
theorem dL_joins_412 : decode cL_joins 412 = .ok (.isub, 1) := by decide +kernel
theorem dL_joins_413 : decode cL_joins 413 = .ok (.if_icmp .ne 7, 3) := by decide +kernel
theorem dL_joins_416 : decode cL_joins 416 = .ok (.iconst 1, 1) := by decide +kernel
theorem dL_joins_417 : decode cL_joins 417 = .ok (.goto 4, 3) := by decide +kernel
theorem dL_joins_420 : decode cL_joins 420 = .ok (.iconst 0, 1) := by decide +kernel
theorem dL_joins_421 : decode cL_joins 421 = .ok (.ireturn, 1) := by decide +kernel
theorem dL_acts_0 : decode cL_acts 0 = .ok (.iload 5, 2) := by decide +kernel
theorem dL_acts_2 : decode cL_acts 2 = .ok (.iconst 5, 1) := by decide +kernel
theorem dL_acts_3 : decode cL_acts 3 = .ok (.ishr, 1) := by decide +kernel
theorem dL_acts_4 : decode cL_acts 4 = .ok (.ldc 46, 2) := by decide +kernel
theorem dL_acts_6 : decode cL_acts 6 = .ok (.invokestatic 47, 3) := by decide +kernel
theorem dL_acts_9 : decode cL_acts 9 = .ok (.istore 6, 2) := by decide +kernel
theorem dL_acts_11 : decode cL_acts 11 = .ok (.iload 5, 2) := by decide +kernel
theorem dL_acts_13 : decode cL_acts 13 = .ok (.bipush 32, 2) := by decide +kernel
theorem dL_acts_15 : decode cL_acts 15 = .ok (.invokestatic 47, 3) := by decide +kernel
theorem dL_acts_18 : decode cL_acts 18 = .ok (.istore 7, 2) := by decide +kernel
theorem dL_acts_20 : decode cL_acts 20 = .ok (.iload 7, 2) := by decide +kernel
theorem dL_acts_22 : decode cL_acts 22 = .ok (.bipush 7, 2) := by decide +kernel
theorem dL_acts_24 : decode cL_acts 24 = .ok (.if_icmp .ge 13, 3) := by decide +kernel
theorem dL_acts_27 : decode cL_acts 27 = .ok (.aload_n 0, 1) := by decide +kernel
theorem dL_acts_28 : decode cL_acts 28 = .ok (.aload_n 1, 1) := by decide +kernel
theorem dL_acts_29 : decode cL_acts 29 = .ok (.aload_n 2, 1) := by decide +kernel
theorem dL_acts_30 : decode cL_acts 30 = .ok (.aload_n 3, 1) := by decide +kernel
theorem dL_acts_31 : decode cL_acts 31 = .ok (.iload 6, 2) := by decide +kernel
theorem dL_acts_33 : decode cL_acts 33 = .ok (.invokestatic 50, 3) := by decide +kernel
theorem dL_acts_36 : decode cL_acts 36 = .ok (.ireturn, 1) := by decide +kernel
theorem dL_acts_37 : decode cL_acts 37 = .ok (.aload_n 1, 1) := by decide +kernel
theorem dL_acts_38 : decode cL_acts 38 = .ok (.iconst 0, 1) := by decide +kernel
theorem dL_acts_39 : decode cL_acts 39 = .ok (.iaload, 1) := by decide +kernel
theorem dL_acts_40 : decode cL_acts 40 = .ok (.ifCond .ne 51, 3) := by decide +kernel
theorem dL_acts_43 : decode cL_acts 43 = .ok (.aload_n 0, 1) := by decide +kernel
theorem dL_acts_44 : decode cL_acts 44 = .ok (.iconst 0, 1) := by decide +kernel
theorem dL_acts_45 : decode cL_acts 45 = .ok (.invokevirtual 54, 3) := by decide +kernel
theorem dL_acts_48 : decode cL_acts 48 = .ok (.ldc 41, 2) := by decide +kernel
theorem dL_acts_50 : decode cL_acts 50 = .ok (.if_icmp .ne 39, 3) := by decide +kernel
theorem dL_acts_53 : decode cL_acts 53 = .ok (.aload_n 0, 1) := by decide +kernel
theorem dL_acts_54 : decode cL_acts 54 = .ok (.iconst 0, 1) := by decide +kernel
theorem dL_acts_55 : decode cL_acts 55 = .ok (.invokevirtual 57, 3) := by decide +kernel
theorem dL_acts_58 : decode cL_acts 58 = .ok (.ldc 41, 2) := by decide +kernel
theorem dL_acts_60 : decode cL_acts 60 = .ok (.if_icmp .ne 29, 3) := by decide +kernel
theorem dL_acts_63 : decode cL_acts 63 = .ok (.aload_n 0, 1) := by decide +kernel
theorem dL_acts_64 : decode cL_acts 64 = .ok (.iconst 0, 1) := by decide +kernel
theorem dL_acts_65 : decode cL_acts 65 = .ok (.invokevirtual 60, 3) := by decide +kernel
theorem dL_acts_68 : decode cL_acts 68 = .ok (.ldc 41, 2) := by decide +kernel
theorem dL_acts_70 : decode cL_acts 70 = .ok (.if_icmp .ne 19, 3) := by decide +kernel
theorem dL_acts_73 : decode cL_acts 73 = .ok (.aload_n 0, 1) := by decide +kernel
theorem dL_acts_74 : decode cL_acts 74 = .ok (.sipush 201, 3) := by decide +kernel
theorem dL_acts_77 : decode cL_acts 77 = .ok (.invokevirtual 60, 3) := by decide +kernel
theorem dL_acts_80 : decode cL_acts 80 = .ok (.ldc 41, 2) := by decide +kernel
theorem dL_acts_82 : decode cL_acts 82 = .ok (.if_icmp .ne 7, 3) := by decide +kernel
theorem dL_acts_85 : decode cL_acts 85 = .ok (.iconst 1, 1) := by decide +kernel
theorem dL_acts_86 : decode cL_acts 86 = .ok (.goto 4, 3) := by decide +kernel
theorem dL_acts_89 : decode cL_acts 89 = .ok (.iconst 0, 1) := by decide +kernel
theorem dL_acts_90 : decode cL_acts 90 = .ok (.ireturn, 1) := by decide +kernel
theorem dL_acts_91 : decode cL_acts 91 = .ok (.iload 6, 2) := by decide +kernel
theorem dL_acts_93 : decode cL_acts 93 = .ok (.aload_n 1, 1) := by decide +kernel
theorem dL_acts_94 : decode cL_acts 94 = .ok (.iconst 0, 1) := by decide +kernel
theorem dL_acts_95 : decode cL_acts 95 = .ok (.iaload, 1) := by decide +kernel
theorem dL_acts_96 : decode cL_acts 96 = .ok (.irem, 1) := by decide +kernel
theorem dL_acts_97 : decode cL_acts 97 = .ok (.istore 8, 2) := by decide +kernel
theorem dL_acts_99 : decode cL_acts 99 = .ok (.iload 7, 2) := by decide +kernel
theorem dL_acts_101 : decode cL_acts 101 = .ok (.bipush 9, 2) := by decide +kernel
theorem dL_acts_103 : decode cL_acts 103 = .ok (.if_icmp .ge 49, 3) := by decide +kernel
theorem dL_acts_106 : decode cL_acts 106 = .ok (.aload_n 1, 1) := by decide +kernel
theorem dL_acts_107 : decode cL_acts 107 = .ok (.aload_n 2, 1) := by decide +kernel
theorem dL_acts_108 : decode cL_acts 108 = .ok (.iload 8, 2) := by decide +kernel
theorem dL_acts_110 : decode cL_acts 110 = .ok (.invokestatic 19, 3) := by decide +kernel
theorem dL_acts_113 : decode cL_acts 113 = .ok (.aload_n 3, 1) := by decide +kernel
theorem dL_acts_114 : decode cL_acts 114 = .ok (.bipush 7, 2) := by decide +kernel
theorem dL_acts_116 : decode cL_acts 116 = .ok (.iload 8, 2) := by decide +kernel
theorem dL_acts_118 : decode cL_acts 118 = .ok (.imul, 1) := by decide +kernel
theorem dL_acts_119 : decode cL_acts 119 = .ok (.bipush 6, 2) := by decide +kernel
theorem dL_acts_121 : decode cL_acts 121 = .ok (.iadd, 1) := by decide +kernel
theorem dL_acts_122 : decode cL_acts 122 = .ok (.dup2, 1) := by decide +kernel
theorem dL_acts_123 : decode cL_acts 123 = .ok (.iaload, 1) := by decide +kernel
theorem dL_acts_124 : decode cL_acts 124 = .ok (.iconst 1, 1) := by decide +kernel
theorem dL_acts_125 : decode cL_acts 125 = .ok (.iadd, 1) := by decide +kernel
theorem dL_acts_126 : decode cL_acts 126 = .ok (.iastore, 1) := by decide +kernel
theorem dL_acts_127 : decode cL_acts 127 = .ok (.aload_n 0, 1) := by decide +kernel
theorem dL_acts_128 : decode cL_acts 128 = .ok (.iload 8, 2) := by decide +kernel
theorem dL_acts_130 : decode cL_acts 130 = .ok (.invokevirtual 54, 3) := by decide +kernel
theorem dL_acts_133 : decode cL_acts 133 = .ok (.aload_n 2, 1) := by decide +kernel
theorem dL_acts_134 : decode cL_acts 134 = .ok (.bipush 8, 2) := by decide +kernel
theorem dL_acts_136 : decode cL_acts 136 = .ok (.iload 8, 2) := by decide +kernel
theorem dL_acts_138 : decode cL_acts 138 = .ok (.imul, 1) := by decide +kernel
theorem dL_acts_139 : decode cL_acts 139 = .ok (.bipush 6, 2) := by decide +kernel
theorem dL_acts_141 : decode cL_acts 141 = .ok (.iadd, 1) := by decide +kernel
theorem dL_acts_142 : decode cL_acts 142 = .ok (.iaload, 1) := by decide +kernel
theorem dL_acts_143 : decode cL_acts 143 = .ok (.if_icmp .ne 7, 3) := by decide +kernel
theorem dL_acts_146 : decode cL_acts 146 = .ok (.iconst 1, 1) := by decide +kernel
theorem dL_acts_147 : decode cL_acts 147 = .ok (.goto 4, 3) := by decide +kernel
theorem dL_acts_150 : decode cL_acts 150 = .ok (.iconst 0, 1) := by decide +kernel
theorem dL_acts_151 : decode cL_acts 151 = .ok (.ireturn, 1) := by decide +kernel
theorem dL_acts_152 : decode cL_acts 152 = .ok (.iload 7, 2) := by decide +kernel
theorem dL_acts_154 : decode cL_acts 154 = .ok (.bipush 19, 2) := by decide +kernel
theorem dL_acts_156 : decode cL_acts 156 = .ok (.if_icmp .ge 16, 3) := by decide +kernel
theorem dL_acts_159 : decode cL_acts 159 = .ok (.aload_n 0, 1) := by decide +kernel
theorem dL_acts_160 : decode cL_acts 160 = .ok (.aload_n 1, 1) := by decide +kernel
theorem dL_acts_161 : decode cL_acts 161 = .ok (.aload_n 2, 1) := by decide +kernel
theorem dL_acts_162 : decode cL_acts 162 = .ok (.aload 4, 2) := by decide +kernel
theorem dL_acts_164 : decode cL_acts 164 = .ok (.iload 7, 2) := by decide +kernel
theorem dL_acts_166 : decode cL_acts 166 = .ok (.iload 6, 2) := by decide +kernel
theorem dL_acts_168 : decode cL_acts 168 = .ok (.invokestatic 63, 3) := by decide +kernel
theorem dL_acts_171 : decode cL_acts 171 = .ok (.ireturn, 1) := by decide +kernel
theorem dL_acts_172 : decode cL_acts 172 = .ok (.iload 7, 2) := by decide +kernel
theorem dL_acts_174 : decode cL_acts 174 = .ok (.bipush 24, 2) := by decide +kernel
theorem dL_acts_176 : decode cL_acts 176 = .ok (.if_icmp .ge 55, 3) := by decide +kernel
theorem dL_acts_179 : decode cL_acts 179 = .ok (.aload_n 3, 1) := by decide +kernel
theorem dL_acts_180 : decode cL_acts 180 = .ok (.bipush 7, 2) := by decide +kernel
theorem dL_acts_182 : decode cL_acts 182 = .ok (.iload 8, 2) := by decide +kernel
theorem dL_acts_184 : decode cL_acts 184 = .ok (.imul, 1) := by decide +kernel
theorem dL_acts_185 : decode cL_acts 185 = .ok (.iconst 4, 1) := by decide +kernel
theorem dL_acts_186 : decode cL_acts 186 = .ok (.iadd, 1) := by decide +kernel
theorem dL_acts_187 : decode cL_acts 187 = .ok (.dup2, 1) := by decide +kernel
theorem dL_acts_188 : decode cL_acts 188 = .ok (.iaload, 1) := by decide +kernel
theorem dL_acts_189 : decode cL_acts 189 = .ok (.iconst 1, 1) := by decide +kernel
theorem dL_acts_190 : decode cL_acts 190 = .ok (.iadd, 1) := by decide +kernel
theorem dL_acts_191 : decode cL_acts 191 = .ok (.iastore, 1) := by decide +kernel
theorem dL_acts_192 : decode cL_acts 192 = .ok (.aload_n 3, 1) := by decide +kernel
theorem dL_acts_193 : decode cL_acts 193 = .ok (.bipush 7, 2) := by decide +kernel
theorem dL_acts_195 : decode cL_acts 195 = .ok (.iload 8, 2) := by decide +kernel
theorem dL_acts_197 : decode cL_acts 197 = .ok (.imul, 1) := by decide +kernel
theorem dL_acts_198 : decode cL_acts 198 = .ok (.iconst 5, 1) := by decide +kernel
theorem dL_acts_199 : decode cL_acts 199 = .ok (.iadd, 1) := by decide +kernel
theorem dL_acts_200 : decode cL_acts 200 = .ok (.dup2, 1) := by decide +kernel
theorem dL_acts_201 : decode cL_acts 201 = .ok (.iaload, 1) := by decide +kernel
theorem dL_acts_202 : decode cL_acts 202 = .ok (.aload_n 2, 1) := by decide +kernel
theorem dL_acts_203 : decode cL_acts 203 = .ok (.iload 8, 2) := by decide +kernel
theorem dL_acts_205 : decode cL_acts 205 = .ok (.invokestatic 67, 3) := by decide +kernel
theorem dL_acts_208 : decode cL_acts 208 = .ok (.iadd, 1) := by decide +kernel
theorem dL_acts_209 : decode cL_acts 209 = .ok (.iastore, 1) := by decide +kernel
theorem dL_acts_210 : decode cL_acts 210 = .ok (.aload_n 0, 1) := by decide +kernel
theorem dL_acts_211 : decode cL_acts 211 = .ok (.iload 8, 2) := by decide +kernel
theorem dL_acts_213 : decode cL_acts 213 = .ok (.invokevirtual 57, 3) := by decide +kernel
theorem dL_acts_216 : decode cL_acts 216 = .ok (.aload_n 2, 1) := by decide +kernel
theorem dL_acts_217 : decode cL_acts 217 = .ok (.iload 8, 2) := by decide +kernel
theorem dL_acts_219 : decode cL_acts 219 = .ok (.invokestatic 67, 3) := by decide +kernel
theorem dL_acts_222 : decode cL_acts 222 = .ok (.if_icmp .ne 7, 3) := by decide +kernel
theorem dL_acts_225 : decode cL_acts 225 = .ok (.iconst 1, 1) := by decide +kernel
theorem dL_acts_226 : decode cL_acts 226 = .ok (.goto 4, 3) := by decide +kernel
theorem dL_acts_229 : decode cL_acts 229 = .ok (.iconst 0, 1) := by decide +kernel
theorem dL_acts_230 : decode cL_acts 230 = .ok (.ireturn, 1) := by decide +kernel
theorem dL_acts_231 : decode cL_acts 231 = .ok (.iconst 1, 1) := by decide +kernel
theorem dL_acts_232 : decode cL_acts 232 = .ok (.iload 6, 2) := by decide +kernel
theorem dL_acts_234 : decode cL_acts 234 = .ok (.iload 6, 2) := by decide +kernel
theorem dL_acts_236 : decode cL_acts 236 = .ok (.iconst 4, 1) := by decide +kernel
theorem dL_acts_237 : decode cL_acts 237 = .ok (.irem, 1) := by decide +kernel
theorem dL_acts_238 : decode cL_acts 238 = .ok (.ifCond .ne 9, 3) := by decide +kernel
theorem dL_acts_241 : decode cL_acts 241 = .ok (.sipush 200, 3) := by decide +kernel
theorem dL_acts_244 : decode cL_acts 244 = .ok (.goto 5, 3) := by decide +kernel
theorem dL_acts_247 : decode cL_acts 247 = .ok (.bipush 9, 2) := by decide +kernel
theorem dL_acts_249 : decode cL_acts 249 = .ok (.irem, 1) := by decide +kernel
theorem dL_acts_250 : decode cL_acts 250 = .ok (.iadd, 1) := by decide +kernel
theorem dL_acts_251 : decode cL_acts 251 = .ok (.istore 9, 2) := by decide +kernel
theorem dL_acts_253 : decode cL_acts 253 = .ok (.aload_n 1, 1) := by decide +kernel
theorem dL_acts_254 : decode cL_acts 254 = .ok (.iconst 2, 1) := by decide +kernel
theorem dL_acts_255 : decode cL_acts 255 = .ok (.iaload, 1) := by decide +kernel
theorem dL_acts_256 : decode cL_acts 256 = .ok (.iload 9, 2) := by decide +kernel
theorem dL_acts_258 : decode cL_acts 258 = .ok (.iadd, 1) := by decide +kernel
theorem dL_acts_259 : decode cL_acts 259 = .ok (.ldc 70, 2) := by decide +kernel
theorem dL_acts_261 : decode cL_acts 261 = .ok (.if_icmp .le 20, 3) := by decide +kernel
theorem dL_acts_264 : decode cL_acts 264 = .ok (.aload_n 0, 1) := by decide +kernel
theorem dL_acts_265 : decode cL_acts 265 = .ok (.iload 9, 2) := by decide +kernel
theorem dL_acts_267 : decode cL_acts 267 = .ok (.invokevirtual 60, 3) := by decide +kernel
theorem dL_acts_270 : decode cL_acts 270 = .ok (.ldc 33, 2) := by decide +kernel
theorem dL_acts_272 : decode cL_acts 272 = .ok (.if_icmp .ne 7, 3) := by decide +kernel
theorem dL_acts_275 : decode cL_acts 275 = .ok (.iconst 1, 1) := by decide +kernel
theorem dL_acts_276 : decode cL_acts 276 = .ok (.goto 4, 3) := by decide +kernel
theorem dL_acts_279 : decode cL_acts 279 = .ok (.iconst 0, 1) := by decide +kernel
theorem dL_acts_280 : decode cL_acts 280 = .ok (.ireturn, 1) := by decide +kernel
theorem dL_acts_281 : decode cL_acts 281 = .ok (.iconst 0, 1) := by decide +kernel
theorem dL_acts_282 : decode cL_acts 282 = .ok (.istore 10, 2) := by decide +kernel
theorem dL_acts_284 : decode cL_acts 284 = .ok (.iconst 0, 1) := by decide +kernel
theorem dL_acts_285 : decode cL_acts 285 = .ok (.istore 11, 2) := by decide +kernel
theorem dL_acts_287 : decode cL_acts 287 = .ok (.iload 11, 2) := by decide +kernel
theorem dL_acts_289 : decode cL_acts 289 = .ok (.iload 9, 2) := by decide +kernel
theorem dL_acts_291 : decode cL_acts 291 = .ok (.if_icmp .ge 22, 3) := by decide +kernel
theorem dL_acts_294 : decode cL_acts 294 = .ok (.iload 10, 2) := by decide +kernel
theorem dL_acts_296 : decode cL_acts 296 = .ok (.aload_n 1, 1) := by decide +kernel
theorem dL_acts_297 : decode cL_acts 297 = .ok (.aload_n 2, 1) := by decide +kernel
theorem dL_acts_298 : decode cL_acts 298 = .ok (.aload_n 3, 1) := by decide +kernel
theorem dL_acts_299 : decode cL_acts 299 = .ok (.aload 4, 2) := by decide +kernel
theorem dL_acts_301 : decode cL_acts 301 = .ok (.invokestatic 71, 3) := by decide +kernel
theorem dL_acts_304 : decode cL_acts 304 = .ok (.iadd, 1) := by decide +kernel
theorem dL_acts_305 : decode cL_acts 305 = .ok (.istore 10, 2) := by decide +kernel
theorem dL_acts_307 : decode cL_acts 307 = .ok (.iinc 11 1, 3) := by decide +kernel
theorem dL_acts_310 : decode cL_acts 310 = .ok (.goto (-23), 3) := by decide +kernel
theorem dL_acts_313 : decode cL_acts 313 = .ok (.aload_n 0, 1) := by decide +kernel
theorem dL_acts_314 : decode cL_acts 314 = .ok (.iload 9, 2) := by decide +kernel
theorem dL_acts_316 : decode cL_acts 316 = .ok (.invokevirtual 60, 3) := by decide +kernel
theorem dL_acts_319 : decode cL_acts 319 = .ok (.iload 10, 2) := by decide +kernel
theorem dL_acts_321 : decode cL_acts 321 = .ok (.if_icmp .ne 7, 3) := by decide +kernel
theorem dL_acts_324 : decode cL_acts 324 = .ok (.iconst 1, 1) := by decide +kernel
theorem dL_acts_325 : decode cL_acts 325 = .ok (.goto 4, 3) := by decide +kernel
theorem dL_acts_328 : decode cL_acts 328 = .ok (.iconst 0, 1) := by decide +kernel
theorem dL_acts_329 : decode cL_acts 329 = .ok (.ireturn, 1) := by decide +kernel
theorem dL_areClocks_0 : decode cL_areClocks 0 = .ok (.aload_n 0, 1) := by decide +kernel
theorem dL_areClocks_1 : decode cL_areClocks 1 = .ok (.aload_n 1, 1) := by decide +kernel
theorem dL_areClocks_2 : decode cL_areClocks 2 = .ok (.iconst 0, 1) := by decide +kernel
theorem dL_areClocks_3 : decode cL_areClocks 3 = .ok (.iaload, 1) := by decide +kernel
theorem dL_areClocks_4 : decode cL_areClocks 4 = .ok (.iconst 0, 1) := by decide +kernel
theorem dL_areClocks_5 : decode cL_areClocks 5 = .ok (.invokevirtual 75, 3) := by decide +kernel
theorem dL_areClocks_8 : decode cL_areClocks 8 = .ok (.ldc 41, 2) := by decide +kernel
theorem dL_areClocks_10 : decode cL_areClocks 10 = .ok (.if_icmp .ne 18, 3) := by decide +kernel
theorem dL_areClocks_13 : decode cL_areClocks 13 = .ok (.aload_n 0, 1) := by decide +kernel
theorem dL_areClocks_14 : decode cL_areClocks 14 = .ok (.iconst (-1), 1) := by decide +kernel
theorem dL_areClocks_15 : decode cL_areClocks 15 = .ok (.iconst 0, 1) := by decide +kernel
theorem dL_areClocks_16 : decode cL_areClocks 16 = .ok (.invokevirtual 75, 3) := by decide +kernel
theorem dL_areClocks_19 : decode cL_areClocks 19 = .ok (.ldc 41, 2) := by decide +kernel
theorem dL_areClocks_21 : decode cL_areClocks 21 = .ok (.if_icmp .ne 7, 3) := by decide +kernel
theorem dL_areClocks_24 : decode cL_areClocks 24 = .ok (.iconst 1, 1) := by decide +kernel
theorem dL_areClocks_25 : decode cL_areClocks 25 = .ok (.goto 4, 3) := by decide +kernel
theorem dL_areClocks_28 : decode cL_areClocks 28 = .ok (.iconst 0, 1) := by decide +kernel
theorem dL_areClocks_29 : decode cL_areClocks 29 = .ok (.istore 4, 2) := by decide +kernel
theorem dL_areClocks_31 : decode cL_areClocks 31 = .ok (.iconst 0, 1) := by decide +kernel
theorem dL_areClocks_32 : decode cL_areClocks 32 = .ok (.istore 5, 2) := by decide +kernel
theorem dL_areClocks_34 : decode cL_areClocks 34 = .ok (.iconst 0, 1) := by decide +kernel
theorem dL_areClocks_35 : decode cL_areClocks 35 = .ok (.istore 6, 2) := by decide +kernel
theorem dL_areClocks_37 : decode cL_areClocks 37 = .ok (.iconst 0, 1) := by decide +kernel
theorem dL_areClocks_38 : decode cL_areClocks 38 = .ok (.istore 7, 2) := by decide +kernel
theorem dL_areClocks_40 : decode cL_areClocks 40 = .ok (.iconst 0, 1) := by decide +kernel
theorem dL_areClocks_41 : decode cL_areClocks 41 = .ok (.istore 8, 2) := by decide +kernel
theorem dL_areClocks_43 : decode cL_areClocks 43 = .ok (.ldc 78, 2) := by decide +kernel
theorem dL_areClocks_45 : decode cL_areClocks 45 = .ok (.istore 9, 2) := by decide +kernel
theorem dL_areClocks_47 : decode cL_areClocks 47 = .ok (.iconst 0, 1) := by decide +kernel
theorem dL_areClocks_48 : decode cL_areClocks 48 = .ok (.istore 10, 2) := by decide +kernel
theorem dL_areClocks_50 : decode cL_areClocks 50 = .ok (.iload 10, 2) := by decide +kernel
theorem dL_areClocks_52 : decode cL_areClocks 52 = .ok (.aload_n 1, 1) := by decide +kernel
theorem dL_areClocks_53 : decode cL_areClocks 53 = .ok (.iconst 0, 1) := by decide +kernel
theorem dL_areClocks_54 : decode cL_areClocks 54 = .ok (.iaload, 1) := by decide +kernel
theorem dL_areClocks_55 : decode cL_areClocks 55 = .ok (.if_icmp .ge 362, 3) := by decide +kernel
theorem dL_areClocks_58 : decode cL_areClocks 58 = .ok (.iload 4, 2) := by decide +kernel
theorem dL_areClocks_60 : decode cL_areClocks 60 = .ok (.ifCond .eq 357, 3) := by decide +kernel
theorem dL_areClocks_63 : decode cL_areClocks 63 = .ok (.bipush 8, 2) := by decide +kernel
theorem dL_areClocks_65 : decode cL_areClocks 65 = .ok (.iload 10, 2) := by decide +kernel
theorem dL_areClocks_67 : decode cL_areClocks 67 = .ok (.imul, 1) := by decide +kernel
theorem dL_areClocks_68 : decode cL_areClocks 68 = .ok (.istore 11, 2) := by decide +kernel
theorem dL_areClocks_70 : decode cL_areClocks 70 = .ok (.bipush 7, 2) := by decide +kernel
theorem dL_areClocks_72 : decode cL_areClocks 72 = .ok (.iload 10, 2) := by decide +kernel
theorem dL_areClocks_74 : decode cL_areClocks 74 = .ok (.imul, 1) := by decide +kernel
theorem dL_areClocks_75 : decode cL_areClocks 75 = .ok (.istore 12, 2) := by decide +kernel
theorem dL_areClocks_77 : decode cL_areClocks 77 = .ok (.iload 5, 2) := by decide +kernel
theorem dL_areClocks_79 : decode cL_areClocks 79 = .ok (.aload_n 3, 1) := by decide +kernel
theorem dL_areClocks_80 : decode cL_areClocks 80 = .ok (.iload 12, 2) := by decide +kernel
theorem dL_areClocks_82 : decode cL_areClocks 82 = .ok (.iaload, 1) := by decide +kernel
theorem dL_areClocks_83 : decode cL_areClocks 83 = .ok (.iadd, 1) := by decide +kernel
theorem dL_areClocks_84 : decode cL_areClocks 84 = .ok (.istore 5, 2) := by decide +kernel
theorem dL_areClocks_86 : decode cL_areClocks 86 = .ok (.iload 6, 2) := by decide +kernel
theorem dL_areClocks_88 : decode cL_areClocks 88 = .ok (.aload_n 3, 1) := by decide +kernel
theorem dL_areClocks_89 : decode cL_areClocks 89 = .ok (.iload 12, 2) := by decide +kernel
theorem dL_areClocks_91 : decode cL_areClocks 91 = .ok (.iconst 4, 1) := by decide +kernel
theorem dL_areClocks_92 : decode cL_areClocks 92 = .ok (.iadd, 1) := by decide +kernel
theorem dL_areClocks_93 : decode cL_areClocks 93 = .ok (.iaload, 1) := by decide +kernel
theorem dL_areClocks_94 : decode cL_areClocks 94 = .ok (.iadd, 1) := by decide +kernel
theorem dL_areClocks_95 : decode cL_areClocks 95 = .ok (.istore 6, 2) := by decide +kernel
theorem dL_areClocks_97 : decode cL_areClocks 97 = .ok (.iload 7, 2) := by decide +kernel
theorem dL_areClocks_99 : decode cL_areClocks 99 = .ok (.aload_n 3, 1) := by decide +kernel
theorem dL_areClocks_100 : decode cL_areClocks 100 = .ok (.iload 12, 2) := by decide +kernel
theorem dL_areClocks_102 : decode cL_areClocks 102 = .ok (.iconst 5, 1) := by decide +kernel
theorem dL_areClocks_103 : decode cL_areClocks 103 = .ok (.iadd, 1) := by decide +kernel
theorem dL_areClocks_104 : decode cL_areClocks 104 = .ok (.iaload, 1) := by decide +kernel
theorem dL_areClocks_105 : decode cL_areClocks 105 = .ok (.iadd, 1) := by decide +kernel
theorem dL_areClocks_106 : decode cL_areClocks 106 = .ok (.istore 7, 2) := by decide +kernel
theorem dL_areClocks_108 : decode cL_areClocks 108 = .ok (.iload 8, 2) := by decide +kernel
theorem dL_areClocks_110 : decode cL_areClocks 110 = .ok (.aload_n 2, 1) := by decide +kernel
theorem dL_areClocks_111 : decode cL_areClocks 111 = .ok (.iload 10, 2) := by decide +kernel
theorem dL_areClocks_113 : decode cL_areClocks 113 = .ok (.invokestatic 67, 3) := by decide +kernel
theorem dL_areClocks_116 : decode cL_areClocks 116 = .ok (.iconst 1, 1) := by decide +kernel
theorem dL_areClocks_117 : decode cL_areClocks 117 = .ok (.if_icmp .ne 10, 3) := by decide +kernel
theorem dL_areClocks_120 : decode cL_areClocks 120 = .ok (.iconst 1, 1) := by decide +kernel
theorem dL_areClocks_121 : decode cL_areClocks 121 = .ok (.iload 10, 2) := by decide +kernel
theorem dL_areClocks_123 : decode cL_areClocks 123 = .ok (.ishl, 1) := by decide +kernel
theorem dL_areClocks_124 : decode cL_areClocks 124 = .ok (.goto 4, 3) := by decide +kernel
theorem dL_areClocks_127 : decode cL_areClocks 127 = .ok (.iconst 0, 1) := by decide +kernel
theorem dL_areClocks_128 : decode cL_areClocks 128 = .ok (.ior, 1) := by decide +kernel
theorem dL_areClocks_129 : decode cL_areClocks 129 = .ok (.istore 8, 2) := by decide +kernel
theorem dL_areClocks_131 : decode cL_areClocks 131 = .ok (.aload_n 2, 1) := by decide +kernel
theorem dL_areClocks_132 : decode cL_areClocks 132 = .ok (.iload 11, 2) := by decide +kernel
theorem dL_areClocks_134 : decode cL_areClocks 134 = .ok (.bipush 7, 2) := by decide +kernel
theorem dL_areClocks_136 : decode cL_areClocks 136 = .ok (.iadd, 1) := by decide +kernel
theorem dL_areClocks_137 : decode cL_areClocks 137 = .ok (.iaload, 1) := by decide +kernel
theorem dL_areClocks_138 : decode cL_areClocks 138 = .ok (.iload 9, 2) := by decide +kernel
theorem dL_areClocks_140 : decode cL_areClocks 140 = .ok (.if_icmp .le 13, 3) := by decide +kernel
theorem dL_areClocks_143 : decode cL_areClocks 143 = .ok (.aload_n 2, 1) := by decide +kernel
theorem dL_areClocks_144 : decode cL_areClocks 144 = .ok (.iload 11, 2) := by decide +kernel
theorem dL_areClocks_146 : decode cL_areClocks 146 = .ok (.bipush 7, 2) := by decide +kernel
theorem dL_areClocks_148 : decode cL_areClocks 148 = .ok (.iadd, 1) := by decide +kernel
theorem dL_areClocks_149 : decode cL_areClocks 149 = .ok (.iaload, 1) := by decide +kernel
theorem dL_areClocks_150 : decode cL_areClocks 150 = .ok (.goto 5, 3) := by decide +kernel
theorem dL_areClocks_153 : decode cL_areClocks 153 = .ok (.iload 9, 2) := by decide +kernel
theorem dL_areClocks_155 : decode cL_areClocks 155 = .ok (.istore 9, 2) := by decide +kernel
theorem dL_areClocks_157 : decode cL_areClocks 157 = .ok (.iconst 0, 1) := by decide +kernel
theorem dL_areClocks_158 : decode cL_areClocks 158 = .ok (.istore 13, 2) := by decide +kernel
theorem dL_areClocks_160 : decode cL_areClocks 160 = .ok (.iload 13, 2) := by decide +kernel
theorem dL_areClocks_162 : decode cL_areClocks 162 = .ok (.iconst 5, 1) := by decide +kernel
theorem dL_areClocks_163 : decode cL_areClocks 163 = .ok (.if_icmp .ge 39, 3) := by decide +kernel
theorem dL_areClocks_166 : decode cL_areClocks 166 = .ok (.iload 4, 2) := by decide +kernel
theorem dL_areClocks_168 : decode cL_areClocks 168 = .ok (.ifCond .eq 34, 3) := by decide +kernel
theorem dL_areClocks_171 : decode cL_areClocks 171 = .ok (.aload_n 0, 1) := by decide +kernel
theorem dL_areClocks_172 : decode cL_areClocks 172 = .ok (.iload 10, 2) := by decide +kernel
theorem dL_areClocks_174 : decode cL_areClocks 174 = .ok (.iload 13, 2) := by decide +kernel
theorem dL_areClocks_176 : decode cL_areClocks 176 = .ok (.invokevirtual 75, 3) := by decide +kernel
theorem dL_areClocks_179 : decode cL_areClocks 179 = .ok (.aload_n 2, 1) := by decide +kernel
theorem dL_areClocks_180 : decode cL_areClocks 180 = .ok (.iload 11, 2) := by decide +kernel
theorem dL_areClocks_182 : decode cL_areClocks 182 = .ok (.iload 13, 2) := by decide +kernel
theorem dL_areClocks_184 : decode cL_areClocks 184 = .ok (.iadd, 1) := by decide +kernel
theorem dL_areClocks_185 : decode cL_areClocks 185 = .ok (.iaload, 1) := by decide +kernel
theorem dL_areClocks_186 : decode cL_areClocks 186 = .ok (.if_icmp .ne 7, 3) := by decide +kernel
theorem dL_areClocks_189 : decode cL_areClocks 189 = .ok (.iconst 1, 1) := by decide +kernel
theorem dL_areClocks_190 : decode cL_areClocks 190 = .ok (.goto 4, 3) := by decide +kernel
theorem dL_areClocks_193 : decode cL_areClocks 193 = .ok (.iconst 0, 1) := by decide +kernel
theorem dL_areClocks_194 : decode cL_areClocks 194 = .ok (.istore 4, 2) := by decide +kernel
theorem dL_areClocks_196 : decode cL_areClocks 196 = .ok (.iinc 13 1, 3) := by decide +kernel
theorem dL_areClocks_199 : decode cL_areClocks 199 = .ok (.goto (-39), 3) := by decide +kernel
theorem dL_areClocks_202 : decode cL_areClocks 202 = .ok (.iload 4, 2) := by decide +kernel
theorem dL_areClocks_204 : decode cL_areClocks 204 = .ok (.ifCond .eq 204, 3) := by decide +kernel
theorem dL_areClocks_207 : decode cL_areClocks 207 = .ok (.aload_n 0, 1) := by decide +kernel
theorem dL_areClocks_208 : decode cL_areClocks 208 = .ok (.iload 10, 2) := by decide +kernel
theorem dL_areClocks_210 : decode cL_areClocks 210 = .ok (.iconst 5, 1) := by decide +kernel
theorem dL_areClocks_211 : decode cL_areClocks 211 = .ok (.invokevirtual 75, 3) := by decide +kernel
theorem dL_areClocks_214 : decode cL_areClocks 214 = .ok (.aload_n 2, 1) := by decide +kernel
theorem dL_areClocks_215 : decode cL_areClocks 215 = .ok (.iload 11, 2) := by decide +kernel
theorem dL_areClocks_217 : decode cL_areClocks 217 = .ok (.bipush 6, 2) := by decide +kernel
theorem dL_areClocks_219 : decode cL_areClocks 219 = .ok (.iadd, 1) := by decide +kernel
theorem dL_areClocks_220 : decode cL_areClocks 220 = .ok (.iaload, 1) := by decide +kernel
theorem dL_areClocks_221 : decode cL_areClocks 221 = .ok (.if_icmp .ne 187, 3) := by decide +kernel
theorem dL_areClocks_224 : decode cL_areClocks 224 = .ok (.aload_n 0, 1) := by decide +kernel
theorem dL_areClocks_225 : decode cL_areClocks 225 = .ok (.iload 10, 2) := by decide +kernel
theorem dL_areClocks_227 : decode cL_areClocks 227 = .ok (.bipush 6, 2) := by decide +kernel
theorem dL_areClocks_229 : decode cL_areClocks 229 = .ok (.invokevirtual 75, 3) := by decide +kernel
theorem dL_areClocks_232 : decode cL_areClocks 232 = .ok (.aload_n 2, 1) := by decide +kernel
theorem dL_areClocks_233 : decode cL_areClocks 233 = .ok (.iload 11, 2) := by decide +kernel
theorem dL_areClocks_235 : decode cL_areClocks 235 = .ok (.bipush 7, 2) := by decide +kernel
theorem dL_areClocks_237 : decode cL_areClocks 237 = .ok (.iadd, 1) := by decide +kernel
theorem dL_areClocks_238 : decode cL_areClocks 238 = .ok (.iaload, 1) := by decide +kernel
theorem dL_areClocks_239 : decode cL_areClocks 239 = .ok (.if_icmp .ne 169, 3) := by decide +kernel
theorem dL_areClocks_242 : decode cL_areClocks 242 = .ok (.aload_n 0, 1) := by decide +kernel
theorem dL_areClocks_243 : decode cL_areClocks 243 = .ok (.iload 10, 2) := by decide +kernel
theorem dL_areClocks_245 : decode cL_areClocks 245 = .ok (.bipush 7, 2) := by decide +kernel
theorem dL_areClocks_247 : decode cL_areClocks 247 = .ok (.invokevirtual 75, 3) := by decide +kernel
theorem dL_areClocks_250 : decode cL_areClocks 250 = .ok (.aload_n 2, 1) := by decide +kernel
theorem dL_areClocks_251 : decode cL_areClocks 251 = .ok (.iload 10, 2) := by decide +kernel
theorem dL_areClocks_253 : decode cL_areClocks 253 = .ok (.invokestatic 67, 3) := by decide +kernel
theorem dL_areClocks_256 : decode cL_areClocks 256 = .ok (.if_icmp .ne 152, 3) := by decide +kernel
theorem dL_areClocks_259 : decode cL_areClocks 259 = .ok (.aload_n 0, 1) := by decide +kernel
theorem dL_areClocks_260 : decode cL_areClocks 260 = .ok (.iload 10, 2) := by decide +kernel
theorem dL_areClocks_262 : decode cL_areClocks 262 = .ok (.bipush 8, 2) := by decide +kernel
theorem dL_areClocks_264 : decode cL_areClocks 264 = .ok (.invokevirtual 75, 3) := by decide +kernel
theorem dL_areClocks_267 : decode cL_areClocks 267 = .ok (.aload_n 3, 1) := by decide +kernel
theorem dL_areClocks_268 : decode cL_areClocks 268 = .ok (.iload 12, 2) := by decide +kernel
theorem dL_areClocks_270 : decode cL_areClocks 270 = .ok (.iaload, 1) := by decide +kernel
theorem dL_areClocks_271 : decode cL_areClocks 271 = .ok (.if_icmp .ne 137, 3) := by decide +kernel
theorem dL_areClocks_274 : decode cL_areClocks 274 = .ok (.aload_n 0, 1) := by decide +kernel
theorem dL_areClocks_275 : decode cL_areClocks 275 = .ok (.iload 10, 2) := by decide +kernel
theorem dL_areClocks_277 : decode cL_areClocks 277 = .ok (.bipush 9, 2) := by decide +kernel
theorem dL_areClocks_279 : decode cL_areClocks 279 = .ok (.invokevirtual 75, 3) := by decide +kernel
theorem dL_areClocks_282 : decode cL_areClocks 282 = .ok (.aload_n 3, 1) := by decide +kernel
theorem dL_areClocks_283 : decode cL_areClocks 283 = .ok (.iload 12, 2) := by decide +kernel
theorem dL_areClocks_285 : decode cL_areClocks 285 = .ok (.iconst 1, 1) := by decide +kernel
theorem dL_areClocks_286 : decode cL_areClocks 286 = .ok (.iadd, 1) := by decide +kernel
theorem dL_areClocks_287 : decode cL_areClocks 287 = .ok (.iaload, 1) := by decide +kernel
theorem dL_areClocks_288 : decode cL_areClocks 288 = .ok (.if_icmp .ne 120, 3) := by decide +kernel
theorem dL_areClocks_291 : decode cL_areClocks 291 = .ok (.aload_n 0, 1) := by decide +kernel
theorem dL_areClocks_292 : decode cL_areClocks 292 = .ok (.iload 10, 2) := by decide +kernel
theorem dL_areClocks_294 : decode cL_areClocks 294 = .ok (.bipush 10, 2) := by decide +kernel
theorem dL_areClocks_296 : decode cL_areClocks 296 = .ok (.invokevirtual 75, 3) := by decide +kernel
theorem dL_areClocks_299 : decode cL_areClocks 299 = .ok (.aload_n 3, 1) := by decide +kernel
theorem dL_areClocks_300 : decode cL_areClocks 300 = .ok (.iload 12, 2) := by decide +kernel
theorem dL_areClocks_302 : decode cL_areClocks 302 = .ok (.iaload, 1) := by decide +kernel
theorem dL_areClocks_303 : decode cL_areClocks 303 = .ok (.ifCond .ne 8, 3) := by decide +kernel
theorem dL_areClocks_306 : decode cL_areClocks 306 = .ok (.ldc 78, 2) := by decide +kernel
theorem dL_areClocks_308 : decode cL_areClocks 308 = .ok (.goto 9, 3) := by decide +kernel
theorem dL_areClocks_311 : decode cL_areClocks 311 = .ok (.aload_n 3, 1) := by decide +kernel
theorem dL_areClocks_312 : decode cL_areClocks 312 = .ok (.iload 12, 2) := by decide +kernel
theorem dL_areClocks_314 : decode cL_areClocks 314 = .ok (.iconst 3, 1) := by decide +kernel
theorem dL_areClocks_315 : decode cL_areClocks 315 = .ok (.iadd, 1) := by decide +kernel
theorem dL_areClocks_316 : decode cL_areClocks 316 = .ok (.iaload, 1) := by decide +kernel
theorem dL_areClocks_317 : decode cL_areClocks 317 = .ok (.if_icmp .ne 91, 3) := by decide +kernel
theorem dL_areClocks_320 : decode cL_areClocks 320 = .ok (.aload_n 0, 1) := by decide +kernel
theorem dL_areClocks_321 : decode cL_areClocks 321 = .ok (.iload 10, 2) := by decide +kernel
theorem dL_areClocks_323 : decode cL_areClocks 323 = .ok (.bipush 11, 2) := by decide +kernel
theorem dL_areClocks_325 : decode cL_areClocks 325 = .ok (.invokevirtual 75, 3) := by decide +kernel
theorem dL_areClocks_328 : decode cL_areClocks 328 = .ok (.aload_n 3, 1) := by decide +kernel
theorem dL_areClocks_329 : decode cL_areClocks 329 = .ok (.iload 12, 2) := by decide +kernel
theorem dL_areClocks_331 : decode cL_areClocks 331 = .ok (.iconst 4, 1) := by decide +kernel
theorem dL_areClocks_332 : decode cL_areClocks 332 = .ok (.iadd, 1) := by decide +kernel
theorem dL_areClocks_333 : decode cL_areClocks 333 = .ok (.iaload, 1) := by decide +kernel
theorem dL_areClocks_334 : decode cL_areClocks 334 = .ok (.if_icmp .ne 74, 3) := by decide +kernel
theorem dL_areClocks_337 : decode cL_areClocks 337 = .ok (.aload_n 0, 1) := by decide +kernel
theorem dL_areClocks_338 : decode cL_areClocks 338 = .ok (.iload 10, 2) := by decide +kernel
theorem dL_areClocks_340 : decode cL_areClocks 340 = .ok (.bipush 12, 2) := by decide +kernel
theorem dL_areClocks_342 : decode cL_areClocks 342 = .ok (.invokevirtual 75, 3) := by decide +kernel
theorem dL_areClocks_345 : decode cL_areClocks 345 = .ok (.aload_n 3, 1) := by decide +kernel
theorem dL_areClocks_346 : decode cL_areClocks 346 = .ok (.iload 12, 2) := by decide +kernel
theorem dL_areClocks_348 : decode cL_areClocks 348 = .ok (.iconst 5, 1) := by decide +kernel
theorem dL_areClocks_349 : decode cL_areClocks 349 = .ok (.iadd, 1) := by decide +kernel
theorem dL_areClocks_350 : decode cL_areClocks 350 = .ok (.iaload, 1) := by decide +kernel
theorem dL_areClocks_351 : decode cL_areClocks 351 = .ok (.if_icmp .ne 57, 3) := by decide +kernel
theorem dL_areClocks_354 : decode cL_areClocks 354 = .ok (.aload_n 0, 1) := by decide +kernel
theorem dL_areClocks_355 : decode cL_areClocks 355 = .ok (.iload 10, 2) := by decide +kernel
theorem dL_areClocks_357 : decode cL_areClocks 357 = .ok (.bipush 13, 2) := by decide +kernel
theorem dL_areClocks_359 : decode cL_areClocks 359 = .ok (.invokevirtual 75, 3) := by decide +kernel
theorem dL_areClocks_362 : decode cL_areClocks 362 = .ok (.aload_n 3, 1) := by decide +kernel
theorem dL_areClocks_363 : decode cL_areClocks 363 = .ok (.iload 12, 2) := by decide +kernel
theorem dL_areClocks_365 : decode cL_areClocks 365 = .ok (.bipush 6, 2) := by decide +kernel
theorem dL_areClocks_367 : decode cL_areClocks 367 = .ok (.iadd, 1) := by decide +kernel
theorem dL_areClocks_368 : decode cL_areClocks 368 = .ok (.iaload, 1) := by decide +kernel
theorem dL_areClocks_369 : decode cL_areClocks 369 = .ok (.if_icmp .ne 39, 3) := by decide +kernel
theorem dL_areClocks_372 : decode cL_areClocks 372 = .ok (.aload_n 0, 1) := by decide +kernel
theorem dL_areClocks_373 : decode cL_areClocks 373 = .ok (.iload 10, 2) := by decide +kernel
theorem dL_areClocks_375 : decode cL_areClocks 375 = .ok (.bipush 14, 2) := by decide +kernel
theorem dL_areClocks_377 : decode cL_areClocks 377 = .ok (.invokevirtual 75, 3) := by decide +kernel
theorem dL_areClocks_380 : decode cL_areClocks 380 = .ok (.ldc 41, 2) := by decide +kernel
theorem dL_areClocks_382 : decode cL_areClocks 382 = .ok (.if_icmp .ne 26, 3) := by decide +kernel
theorem dL_areClocks_385 : decode cL_areClocks 385 = .ok (.aload_n 2, 1) := by decide +kernel
theorem dL_areClocks_386 : decode cL_areClocks 386 = .ok (.iload 10, 2) := by decide +kernel
theorem dL_areClocks_388 : decode cL_areClocks 388 = .ok (.invokestatic 67, 3) := by decide +kernel
theorem dL_areClocks_391 : decode cL_areClocks 391 = .ok (.ifCond .le 17, 3) := by decide +kernel
theorem dL_areClocks_394 : decode cL_areClocks 394 = .ok (.aload_n 2, 1) := by decide +kernel
theorem dL_areClocks_395 : decode cL_areClocks 395 = .ok (.iload 11, 2) := by decide +kernel
theorem dL_areClocks_397 : decode cL_areClocks 397 = .ok (.bipush 7, 2) := by decide +kernel
theorem dL_areClocks_399 : decode cL_areClocks 399 = .ok (.iadd, 1) := by decide +kernel
theorem dL_areClocks_400 : decode cL_areClocks 400 = .ok (.iaload, 1) := by decide +kernel
theorem dL_areClocks_401 : decode cL_areClocks 401 = .ok (.ifCond .lt 7, 3) := by decide +kernel
theorem dL_areClocks_404 : decode cL_areClocks 404 = .ok (.iconst 1, 1) := by decide +kernel
theorem dL_areClocks_405 : decode cL_areClocks 405 = .ok (.goto 4, 3) := by decide +kernel
theorem dL_areClocks_408 : decode cL_areClocks 408 = .ok (.iconst 0, 1) := by decide +kernel
theorem dL_areClocks_409 : decode cL_areClocks 409 = .ok (.istore 4, 2) := by decide +kernel
theorem dL_areClocks_411 : decode cL_areClocks 411 = .ok (.iinc 10 1, 3) := by decide +kernel
theorem dL_areClocks_414 : decode cL_areClocks 414 = .ok (.goto (-364), 3) := by decide +kernel
theorem dL_areClocks_417 : decode cL_areClocks 417 = .ok (.iload 4, 2) := by decide +kernel
theorem dL_areClocks_419 : decode cL_areClocks 419 = .ok (.ifCond .eq 60, 3) := by decide +kernel
theorem dL_areClocks_422 : decode cL_areClocks 422 = .ok (.aload_n 0, 1) := by decide +kernel
theorem dL_areClocks_423 : decode cL_areClocks 423 = .ok (.iconst 4, 1) := by decide +kernel
theorem dL_areClocks_424 : decode cL_areClocks 424 = .ok (.invokevirtual 79, 3) := by decide +kernel
theorem dL_areClocks_427 : decode cL_areClocks 427 = .ok (.iload 5, 2) := by decide +kernel
theorem dL_areClocks_429 : decode cL_areClocks 429 = .ok (.if_icmp .ne 50, 3) := by decide +kernel
theorem dL_areClocks_432 : decode cL_areClocks 432 = .ok (.aload_n 0, 1) := by decide +kernel
theorem dL_areClocks_433 : decode cL_areClocks 433 = .ok (.iconst 5, 1) := by decide +kernel
theorem dL_areClocks_434 : decode cL_areClocks 434 = .ok (.invokevirtual 79, 3) := by decide +kernel
theorem dL_areClocks_437 : decode cL_areClocks 437 = .ok (.iload 6, 2) := by decide +kernel
theorem dL_areClocks_439 : decode cL_areClocks 439 = .ok (.if_icmp .ne 40, 3) := by decide +kernel
theorem dL_areClocks_442 : decode cL_areClocks 442 = .ok (.aload_n 0, 1) := by decide +kernel
theorem dL_areClocks_443 : decode cL_areClocks 443 = .ok (.bipush 6, 2) := by decide +kernel
theorem dL_areClocks_445 : decode cL_areClocks 445 = .ok (.invokevirtual 79, 3) := by decide +kernel
theorem dL_areClocks_448 : decode cL_areClocks 448 = .ok (.iload 7, 2) := by decide +kernel
theorem dL_areClocks_450 : decode cL_areClocks 450 = .ok (.if_icmp .ne 29, 3) := by decide +kernel
theorem dL_areClocks_453 : decode cL_areClocks 453 = .ok (.aload_n 0, 1) := by decide +kernel
theorem dL_areClocks_454 : decode cL_areClocks 454 = .ok (.bipush 7, 2) := by decide +kernel
theorem dL_areClocks_456 : decode cL_areClocks 456 = .ok (.invokevirtual 79, 3) := by decide +kernel
theorem dL_areClocks_459 : decode cL_areClocks 459 = .ok (.iload 8, 2) := by decide +kernel
theorem dL_areClocks_461 : decode cL_areClocks 461 = .ok (.if_icmp .ne 18, 3) := by decide +kernel
theorem dL_areClocks_464 : decode cL_areClocks 464 = .ok (.aload_n 0, 1) := by decide +kernel
theorem dL_areClocks_465 : decode cL_areClocks 465 = .ok (.bipush 8, 2) := by decide +kernel
theorem dL_areClocks_467 : decode cL_areClocks 467 = .ok (.invokevirtual 79, 3) := by decide +kernel
theorem dL_areClocks_470 : decode cL_areClocks 470 = .ok (.iload 9, 2) := by decide +kernel
theorem dL_areClocks_472 : decode cL_areClocks 472 = .ok (.if_icmp .ne 7, 3) := by decide +kernel
theorem dL_areClocks_475 : decode cL_areClocks 475 = .ok (.iconst 1, 1) := by decide +kernel
theorem dL_areClocks_476 : decode cL_areClocks 476 = .ok (.goto 4, 3) := by decide +kernel
theorem dL_areClocks_479 : decode cL_areClocks 479 = .ok (.iconst 0, 1) := by decide +kernel
theorem dL_areClocks_480 : decode cL_areClocks 480 = .ok (.ireturn, 1) := by decide +kernel
theorem dL_areGroups_0 : decode cL_areGroups 0 = .ok (.aload_n 0, 1) := by decide +kernel
theorem dL_areGroups_1 : decode cL_areGroups 1 = .ok (.aload_n 1, 1) := by decide +kernel
theorem dL_areGroups_2 : decode cL_areGroups 2 = .ok (.iconst 1, 1) := by decide +kernel
theorem dL_areGroups_3 : decode cL_areGroups 3 = .ok (.iaload, 1) := by decide +kernel
theorem dL_areGroups_4 : decode cL_areGroups 4 = .ok (.iconst 0, 1) := by decide +kernel
theorem dL_areGroups_5 : decode cL_areGroups 5 = .ok (.invokevirtual 82, 3) := by decide +kernel
theorem dL_areGroups_8 : decode cL_areGroups 8 = .ok (.ldc 41, 2) := by decide +kernel
theorem dL_areGroups_10 : decode cL_areGroups 10 = .ok (.if_icmp .ne 18, 3) := by decide +kernel
theorem dL_areGroups_13 : decode cL_areGroups 13 = .ok (.aload_n 0, 1) := by decide +kernel
theorem dL_areGroups_14 : decode cL_areGroups 14 = .ok (.iconst (-1), 1) := by decide +kernel
theorem dL_areGroups_15 : decode cL_areGroups 15 = .ok (.iconst 0, 1) := by decide +kernel
theorem dL_areGroups_16 : decode cL_areGroups 16 = .ok (.invokevirtual 82, 3) := by decide +kernel
theorem dL_areGroups_19 : decode cL_areGroups 19 = .ok (.ldc 41, 2) := by decide +kernel
theorem dL_areGroups_21 : decode cL_areGroups 21 = .ok (.if_icmp .ne 7, 3) := by decide +kernel
theorem dL_areGroups_24 : decode cL_areGroups 24 = .ok (.iconst 1, 1) := by decide +kernel
theorem dL_areGroups_25 : decode cL_areGroups 25 = .ok (.goto 4, 3) := by decide +kernel
theorem dL_areGroups_28 : decode cL_areGroups 28 = .ok (.iconst 0, 1) := by decide +kernel
theorem dL_areGroups_29 : decode cL_areGroups 29 = .ok (.istore 5, 2) := by decide +kernel
theorem dL_areGroups_31 : decode cL_areGroups 31 = .ok (.iconst 0, 1) := by decide +kernel
theorem dL_areGroups_32 : decode cL_areGroups 32 = .ok (.istore 6, 2) := by decide +kernel
theorem dL_areGroups_34 : decode cL_areGroups 34 = .ok (.iload 6, 2) := by decide +kernel
theorem dL_areGroups_36 : decode cL_areGroups 36 = .ok (.aload_n 1, 1) := by decide +kernel
theorem dL_areGroups_37 : decode cL_areGroups 37 = .ok (.iconst 1, 1) := by decide +kernel
theorem dL_areGroups_38 : decode cL_areGroups 38 = .ok (.iaload, 1) := by decide +kernel
theorem dL_areGroups_39 : decode cL_areGroups 39 = .ok (.if_icmp .ge 251, 3) := by decide +kernel
theorem dL_areGroups_42 : decode cL_areGroups 42 = .ok (.iload 5, 2) := by decide +kernel
theorem dL_areGroups_44 : decode cL_areGroups 44 = .ok (.ifCond .eq 246, 3) := by decide +kernel
theorem dL_areGroups_47 : decode cL_areGroups 47 = .ok (.iconst 0, 1) := by decide +kernel
theorem dL_areGroups_48 : decode cL_areGroups 48 = .ok (.istore 7, 2) := by decide +kernel
theorem dL_areGroups_50 : decode cL_areGroups 50 = .ok (.ldc 78, 2) := by decide +kernel
theorem dL_areGroups_52 : decode cL_areGroups 52 = .ok (.istore 8, 2) := by decide +kernel
theorem dL_areGroups_54 : decode cL_areGroups 54 = .ok (.iconst 0, 1) := by decide +kernel
theorem dL_areGroups_55 : decode cL_areGroups 55 = .ok (.istore 9, 2) := by decide +kernel
theorem dL_areGroups_57 : decode cL_areGroups 57 = .ok (.iload 9, 2) := by decide +kernel
theorem dL_areGroups_59 : decode cL_areGroups 59 = .ok (.aload_n 1, 1) := by decide +kernel
theorem dL_areGroups_60 : decode cL_areGroups 60 = .ok (.iconst 0, 1) := by decide +kernel
theorem dL_areGroups_61 : decode cL_areGroups 61 = .ok (.iaload, 1) := by decide +kernel
theorem dL_areGroups_62 : decode cL_areGroups 62 = .ok (.if_icmp .ge 99, 3) := by decide +kernel
theorem dL_areGroups_65 : decode cL_areGroups 65 = .ok (.aload 4, 2) := by decide +kernel
theorem dL_areGroups_67 : decode cL_areGroups 67 = .ok (.iconst 4, 1) := by decide +kernel
theorem dL_areGroups_68 : decode cL_areGroups 68 = .ok (.iload 6, 2) := by decide +kernel
theorem dL_areGroups_70 : decode cL_areGroups 70 = .ok (.imul, 1) := by decide +kernel
theorem dL_areGroups_71 : decode cL_areGroups 71 = .ok (.iconst 1, 1) := by decide +kernel
theorem dL_areGroups_72 : decode cL_areGroups 72 = .ok (.iadd, 1) := by decide +kernel
theorem dL_areGroups_73 : decode cL_areGroups 73 = .ok (.iaload, 1) := by decide +kernel
theorem dL_areGroups_74 : decode cL_areGroups 74 = .ok (.iload 9, 2) := by decide +kernel
theorem dL_areGroups_76 : decode cL_areGroups 76 = .ok (.ishr, 1) := by decide +kernel
theorem dL_areGroups_77 : decode cL_areGroups 77 = .ok (.iconst 1, 1) := by decide +kernel
theorem dL_areGroups_78 : decode cL_areGroups 78 = .ok (.iand, 1) := by decide +kernel
theorem dL_areGroups_79 : decode cL_areGroups 79 = .ok (.iconst 1, 1) := by decide +kernel
theorem dL_areGroups_80 : decode cL_areGroups 80 = .ok (.if_icmp .ne 75, 3) := by decide +kernel
theorem dL_areGroups_83 : decode cL_areGroups 83 = .ok (.iload 7, 2) := by decide +kernel
theorem dL_areGroups_85 : decode cL_areGroups 85 = .ok (.aload_n 3, 1) := by decide +kernel
theorem dL_areGroups_86 : decode cL_areGroups 86 = .ok (.bipush 7, 2) := by decide +kernel
theorem dL_areGroups_88 : decode cL_areGroups 88 = .ok (.iload 9, 2) := by decide +kernel
theorem dL_areGroups_90 : decode cL_areGroups 90 = .ok (.imul, 1) := by decide +kernel
theorem dL_areGroups_91 : decode cL_areGroups 91 = .ok (.iconst 1, 1) := by decide +kernel
theorem dL_areGroups_92 : decode cL_areGroups 92 = .ok (.iadd, 1) := by decide +kernel
theorem dL_areGroups_93 : decode cL_areGroups 93 = .ok (.iaload, 1) := by decide +kernel
theorem dL_areGroups_94 : decode cL_areGroups 94 = .ok (.iadd, 1) := by decide +kernel
theorem dL_areGroups_95 : decode cL_areGroups 95 = .ok (.istore 7, 2) := by decide +kernel
theorem dL_areGroups_97 : decode cL_areGroups 97 = .ok (.iload 8, 2) := by decide +kernel
theorem dL_areGroups_99 : decode cL_areGroups 99 = .ok (.ifCond .lt 14, 3) := by decide +kernel
theorem dL_areGroups_102 : decode cL_areGroups 102 = .ok (.aload_n 2, 1) := by decide +kernel
theorem dL_areGroups_103 : decode cL_areGroups 103 = .ok (.iload 9, 2) := by decide +kernel
theorem dL_areGroups_105 : decode cL_areGroups 105 = .ok (.invokestatic 67, 3) := by decide +kernel
theorem dL_areGroups_108 : decode cL_areGroups 108 = .ok (.iload 8, 2) := by decide +kernel
theorem dL_areGroups_110 : decode cL_areGroups 110 = .ok (.if_icmp .ge 12, 3) := by decide +kernel
theorem dL_areGroups_113 : decode cL_areGroups 113 = .ok (.aload_n 2, 1) := by decide +kernel
theorem dL_areGroups_114 : decode cL_areGroups 114 = .ok (.iload 9, 2) := by decide +kernel
theorem dL_areGroups_116 : decode cL_areGroups 116 = .ok (.invokestatic 67, 3) := by decide +kernel
theorem dL_areGroups_119 : decode cL_areGroups 119 = .ok (.goto 5, 3) := by decide +kernel
theorem dL_areGroups_122 : decode cL_areGroups 122 = .ok (.iload 8, 2) := by decide +kernel
theorem dL_areGroups_124 : decode cL_areGroups 124 = .ok (.istore 8, 2) := by decide +kernel
theorem dL_areGroups_126 : decode cL_areGroups 126 = .ok (.iload 5, 2) := by decide +kernel
theorem dL_areGroups_128 : decode cL_areGroups 128 = .ok (.ifCond .eq 24, 3) := by decide +kernel
theorem dL_areGroups_131 : decode cL_areGroups 131 = .ok (.aload_n 2, 1) := by decide +kernel
theorem dL_areGroups_132 : decode cL_areGroups 132 = .ok (.bipush 8, 2) := by decide +kernel
theorem dL_areGroups_134 : decode cL_areGroups 134 = .ok (.iload 9, 2) := by decide +kernel
theorem dL_areGroups_136 : decode cL_areGroups 136 = .ok (.imul, 1) := by decide +kernel
theorem dL_areGroups_137 : decode cL_areGroups 137 = .ok (.iaload, 1) := by decide +kernel
theorem dL_areGroups_138 : decode cL_areGroups 138 = .ok (.aload 4, 2) := by decide +kernel
theorem dL_areGroups_140 : decode cL_areGroups 140 = .ok (.iconst 4, 1) := by decide +kernel
theorem dL_areGroups_141 : decode cL_areGroups 141 = .ok (.iload 6, 2) := by decide +kernel
theorem dL_areGroups_143 : decode cL_areGroups 143 = .ok (.imul, 1) := by decide +kernel
theorem dL_areGroups_144 : decode cL_areGroups 144 = .ok (.iaload, 1) := by decide +kernel
theorem dL_areGroups_145 : decode cL_areGroups 145 = .ok (.if_icmp .ne 7, 3) := by decide +kernel
theorem dL_areGroups_148 : decode cL_areGroups 148 = .ok (.iconst 1, 1) := by decide +kernel
theorem dL_areGroups_149 : decode cL_areGroups 149 = .ok (.goto 4, 3) := by decide +kernel
theorem dL_areGroups_152 : decode cL_areGroups 152 = .ok (.iconst 0, 1) := by decide +kernel
theorem dL_areGroups_153 : decode cL_areGroups 153 = .ok (.istore 5, 2) := by decide +kernel
theorem dL_areGroups_155 : decode cL_areGroups 155 = .ok (.iinc 9 1, 3) := by decide +kernel
theorem dL_areGroups_158 : decode cL_areGroups 158 = .ok (.goto (-101), 3) := by decide +kernel
theorem dL_areGroups_161 : decode cL_areGroups 161 = .ok (.iload 5, 2) := by decide +kernel
theorem dL_areGroups_163 : decode cL_areGroups 163 = .ok (.ifCond .eq 118, 3) := by decide +kernel
theorem dL_areGroups_166 : decode cL_areGroups 166 = .ok (.aload_n 0, 1) := by decide +kernel
theorem dL_areGroups_167 : decode cL_areGroups 167 = .ok (.iload 6, 2) := by decide +kernel
theorem dL_areGroups_169 : decode cL_areGroups 169 = .ok (.iconst 0, 1) := by decide +kernel
theorem dL_areGroups_170 : decode cL_areGroups 170 = .ok (.invokevirtual 82, 3) := by decide +kernel
theorem dL_areGroups_173 : decode cL_areGroups 173 = .ok (.aload 4, 2) := by decide +kernel
theorem dL_areGroups_175 : decode cL_areGroups 175 = .ok (.iconst 4, 1) := by decide +kernel
theorem dL_areGroups_176 : decode cL_areGroups 176 = .ok (.iload 6, 2) := by decide +kernel
theorem dL_areGroups_178 : decode cL_areGroups 178 = .ok (.imul, 1) := by decide +kernel
theorem dL_areGroups_179 : decode cL_areGroups 179 = .ok (.iaload, 1) := by decide +kernel
theorem dL_areGroups_180 : decode cL_areGroups 180 = .ok (.if_icmp .ne 101, 3) := by decide +kernel
theorem dL_areGroups_183 : decode cL_areGroups 183 = .ok (.aload_n 0, 1) := by decide +kernel
theorem dL_areGroups_184 : decode cL_areGroups 184 = .ok (.iload 6, 2) := by decide +kernel
theorem dL_areGroups_186 : decode cL_areGroups 186 = .ok (.iconst 1, 1) := by decide +kernel
theorem dL_areGroups_187 : decode cL_areGroups 187 = .ok (.invokevirtual 82, 3) := by decide +kernel
theorem dL_areGroups_190 : decode cL_areGroups 190 = .ok (.aload 4, 2) := by decide +kernel
theorem dL_areGroups_192 : decode cL_areGroups 192 = .ok (.iconst 4, 1) := by decide +kernel
theorem dL_areGroups_193 : decode cL_areGroups 193 = .ok (.iload 6, 2) := by decide +kernel
theorem dL_areGroups_195 : decode cL_areGroups 195 = .ok (.imul, 1) := by decide +kernel
theorem dL_areGroups_196 : decode cL_areGroups 196 = .ok (.iconst 1, 1) := by decide +kernel
theorem dL_areGroups_197 : decode cL_areGroups 197 = .ok (.iadd, 1) := by decide +kernel
theorem dL_areGroups_198 : decode cL_areGroups 198 = .ok (.iaload, 1) := by decide +kernel
theorem dL_areGroups_199 : decode cL_areGroups 199 = .ok (.if_icmp .ne 82, 3) := by decide +kernel
theorem dL_areGroups_202 : decode cL_areGroups 202 = .ok (.aload_n 0, 1) := by decide +kernel
theorem dL_areGroups_203 : decode cL_areGroups 203 = .ok (.iload 6, 2) := by decide +kernel
theorem dL_areGroups_205 : decode cL_areGroups 205 = .ok (.iconst 2, 1) := by decide +kernel
theorem dL_areGroups_206 : decode cL_areGroups 206 = .ok (.invokevirtual 82, 3) := by decide +kernel
theorem dL_areGroups_209 : decode cL_areGroups 209 = .ok (.iload 8, 2) := by decide +kernel
theorem dL_areGroups_211 : decode cL_areGroups 211 = .ok (.if_icmp .ne 70, 3) := by decide +kernel
theorem dL_areGroups_214 : decode cL_areGroups 214 = .ok (.aload_n 0, 1) := by decide +kernel
theorem dL_areGroups_215 : decode cL_areGroups 215 = .ok (.iload 6, 2) := by decide +kernel
theorem dL_areGroups_217 : decode cL_areGroups 217 = .ok (.iconst 3, 1) := by decide +kernel
theorem dL_areGroups_218 : decode cL_areGroups 218 = .ok (.invokevirtual 82, 3) := by decide +kernel
theorem dL_areGroups_221 : decode cL_areGroups 221 = .ok (.aload 4, 2) := by decide +kernel
theorem dL_areGroups_223 : decode cL_areGroups 223 = .ok (.iconst 4, 1) := by decide +kernel
theorem dL_areGroups_224 : decode cL_areGroups 224 = .ok (.iload 6, 2) := by decide +kernel
theorem dL_areGroups_226 : decode cL_areGroups 226 = .ok (.imul, 1) := by decide +kernel
theorem dL_areGroups_227 : decode cL_areGroups 227 = .ok (.iconst 2, 1) := by decide +kernel
theorem dL_areGroups_228 : decode cL_areGroups 228 = .ok (.iadd, 1) := by decide +kernel
theorem dL_areGroups_229 : decode cL_areGroups 229 = .ok (.iaload, 1) := by decide +kernel
theorem dL_areGroups_230 : decode cL_areGroups 230 = .ok (.if_icmp .ne 51, 3) := by decide +kernel
theorem dL_areGroups_233 : decode cL_areGroups 233 = .ok (.aload_n 0, 1) := by decide +kernel
theorem dL_areGroups_234 : decode cL_areGroups 234 = .ok (.iload 6, 2) := by decide +kernel
theorem dL_areGroups_236 : decode cL_areGroups 236 = .ok (.iconst 4, 1) := by decide +kernel
theorem dL_areGroups_237 : decode cL_areGroups 237 = .ok (.invokevirtual 82, 3) := by decide +kernel
theorem dL_areGroups_240 : decode cL_areGroups 240 = .ok (.aload 4, 2) := by decide +kernel
theorem dL_areGroups_242 : decode cL_areGroups 242 = .ok (.iconst 4, 1) := by decide +kernel
theorem dL_areGroups_243 : decode cL_areGroups 243 = .ok (.iload 6, 2) := by decide +kernel
theorem dL_areGroups_245 : decode cL_areGroups 245 = .ok (.imul, 1) := by decide +kernel
theorem dL_areGroups_246 : decode cL_areGroups 246 = .ok (.iconst 3, 1) := by decide +kernel
theorem dL_areGroups_247 : decode cL_areGroups 247 = .ok (.iadd, 1) := by decide +kernel
theorem dL_areGroups_248 : decode cL_areGroups 248 = .ok (.iaload, 1) := by decide +kernel
theorem dL_areGroups_249 : decode cL_areGroups 249 = .ok (.if_icmp .ne 32, 3) := by decide +kernel
theorem dL_areGroups_252 : decode cL_areGroups 252 = .ok (.aload_n 0, 1) := by decide +kernel
theorem dL_areGroups_253 : decode cL_areGroups 253 = .ok (.iload 6, 2) := by decide +kernel
theorem dL_areGroups_255 : decode cL_areGroups 255 = .ok (.iconst 5, 1) := by decide +kernel
theorem dL_areGroups_256 : decode cL_areGroups 256 = .ok (.invokevirtual 82, 3) := by decide +kernel
theorem dL_areGroups_259 : decode cL_areGroups 259 = .ok (.iload 7, 2) := by decide +kernel
theorem dL_areGroups_261 : decode cL_areGroups 261 = .ok (.if_icmp .ne 20, 3) := by decide +kernel
theorem dL_areGroups_264 : decode cL_areGroups 264 = .ok (.aload_n 0, 1) := by decide +kernel
theorem dL_areGroups_265 : decode cL_areGroups 265 = .ok (.iload 6, 2) := by decide +kernel
theorem dL_areGroups_267 : decode cL_areGroups 267 = .ok (.bipush 6, 2) := by decide +kernel
theorem dL_areGroups_269 : decode cL_areGroups 269 = .ok (.invokevirtual 82, 3) := by decide +kernel
theorem dL_areGroups_272 : decode cL_areGroups 272 = .ok (.ldc 41, 2) := by decide +kernel
theorem dL_areGroups_274 : decode cL_areGroups 274 = .ok (.if_icmp .ne 7, 3) := by decide +kernel
theorem dL_areGroups_277 : decode cL_areGroups 277 = .ok (.iconst 1, 1) := by decide +kernel
theorem dL_areGroups_278 : decode cL_areGroups 278 = .ok (.goto 4, 3) := by decide +kernel
theorem dL_areGroups_281 : decode cL_areGroups 281 = .ok (.iconst 0, 1) := by decide +kernel
theorem dL_areGroups_282 : decode cL_areGroups 282 = .ok (.istore 5, 2) := by decide +kernel
theorem dL_areGroups_284 : decode cL_areGroups 284 = .ok (.iinc 6 1, 3) := by decide +kernel
theorem dL_areGroups_287 : decode cL_areGroups 287 = .ok (.goto (-253), 3) := by decide +kernel
theorem dL_areGroups_290 : decode cL_areGroups 290 = .ok (.iload 5, 2) := by decide +kernel
theorem dL_areGroups_292 : decode cL_areGroups 292 = .ok (.ireturn, 1) := by decide +kernel
theorem dL_isSo_0 : decode cL_isSo 0 = .ok (.aload_n 0, 1) := by decide +kernel
theorem dL_isSo_1 : decode cL_isSo 1 = .ok (.aload_n 1, 1) := by decide +kernel
theorem dL_isSo_2 : decode cL_isSo 2 = .ok (.aload_n 2, 1) := by decide +kernel
theorem dL_isSo_3 : decode cL_isSo 3 = .ok (.aload_n 3, 1) := by decide +kernel
theorem dL_isSo_4 : decode cL_isSo 4 = .ok (.invokestatic 85, 3) := by decide +kernel
theorem dL_isSo_7 : decode cL_isSo 7 = .ok (.ifCond .eq 41, 3) := by decide +kernel
theorem dL_isSo_10 : decode cL_isSo 10 = .ok (.aload_n 0, 1) := by decide +kernel
theorem dL_isSo_11 : decode cL_isSo 11 = .ok (.aload_n 1, 1) := by decide +kernel
theorem dL_isSo_12 : decode cL_isSo 12 = .ok (.aload_n 2, 1) := by decide +kernel
theorem dL_isSo_13 : decode cL_isSo 13 = .ok (.aload_n 3, 1) := by decide +kernel
theorem dL_isSo_14 : decode cL_isSo 14 = .ok (.aload 4, 2) := by decide +kernel
theorem dL_isSo_16 : decode cL_isSo 16 = .ok (.invokestatic 89, 3) := by decide +kernel
theorem dL_isSo_19 : decode cL_isSo 19 = .ok (.ifCond .eq 29, 3) := by decide +kernel
theorem dL_isSo_22 : decode cL_isSo 22 = .ok (.aload_n 0, 1) := by decide +kernel
theorem dL_isSo_23 : decode cL_isSo 23 = .ok (.iconst (-1), 1) := by decide +kernel
theorem dL_isSo_24 : decode cL_isSo 24 = .ok (.invokevirtual 93, 3) := by decide +kernel
theorem dL_isSo_27 : decode cL_isSo 27 = .ok (.ldc 41, 2) := by decide +kernel
theorem dL_isSo_29 : decode cL_isSo 29 = .ok (.if_icmp .ne 19, 3) := by decide +kernel
theorem dL_isSo_32 : decode cL_isSo 32 = .ok (.aload_n 0, 1) := by decide +kernel
theorem dL_isSo_33 : decode cL_isSo 33 = .ok (.aload_n 1, 1) := by decide +kernel
theorem dL_isSo_34 : decode cL_isSo 34 = .ok (.iconst 0, 1) := by decide +kernel
theorem dL_isSo_35 : decode cL_isSo 35 = .ok (.iaload, 1) := by decide +kernel
theorem dL_isSo_36 : decode cL_isSo 36 = .ok (.invokevirtual 93, 3) := by decide +kernel
theorem dL_isSo_39 : decode cL_isSo 39 = .ok (.ldc 78, 2) := by decide +kernel
theorem dL_isSo_41 : decode cL_isSo 41 = .ok (.if_icmp .ne 7, 3) := by decide +kernel
theorem dL_isSo_44 : decode cL_isSo 44 = .ok (.iconst 1, 1) := by decide +kernel
theorem dL_isSo_45 : decode cL_isSo 45 = .ok (.goto 4, 3) := by decide +kernel
theorem dL_isSo_48 : decode cL_isSo 48 = .ok (.iconst 0, 1) := by decide +kernel
theorem dL_isSo_49 : decode cL_isSo 49 = .ok (.istore 5, 2) := by decide +kernel
theorem dL_isSo_51 : decode cL_isSo 51 = .ok (.iconst 0, 1) := by decide +kernel
theorem dL_isSo_52 : decode cL_isSo 52 = .ok (.istore 6, 2) := by decide +kernel
theorem dL_isSo_54 : decode cL_isSo 54 = .ok (.iconst 0, 1) := by decide +kernel
theorem dL_isSo_55 : decode cL_isSo 55 = .ok (.istore 7, 2) := by decide +kernel
theorem dL_isSo_57 : decode cL_isSo 57 = .ok (.iload 7, 2) := by decide +kernel
theorem dL_isSo_59 : decode cL_isSo 59 = .ok (.aload_n 1, 1) := by decide +kernel
theorem dL_isSo_60 : decode cL_isSo 60 = .ok (.iconst 0, 1) := by decide +kernel
theorem dL_isSo_61 : decode cL_isSo 61 = .ok (.iaload, 1) := by decide +kernel
theorem dL_isSo_62 : decode cL_isSo 62 = .ok (.if_icmp .ge 87, 3) := by decide +kernel
theorem dL_isSo_65 : decode cL_isSo 65 = .ok (.iload 5, 2) := by decide +kernel
theorem dL_isSo_67 : decode cL_isSo 67 = .ok (.ifCond .eq 82, 3) := by decide +kernel
theorem dL_isSo_70 : decode cL_isSo 70 = .ok (.aload_n 0, 1) := by decide +kernel
theorem dL_isSo_71 : decode cL_isSo 71 = .ok (.iload 7, 2) := by decide +kernel
theorem dL_isSo_73 : decode cL_isSo 73 = .ok (.invokevirtual 93, 3) := by decide +kernel
theorem dL_isSo_76 : decode cL_isSo 76 = .ok (.istore 8, 2) := by decide +kernel
theorem dL_isSo_78 : decode cL_isSo 78 = .ok (.iload 8, 2) := by decide +kernel
theorem dL_isSo_80 : decode cL_isSo 80 = .ok (.ifCond .lt 34, 3) := by decide +kernel
theorem dL_isSo_83 : decode cL_isSo 83 = .ok (.iload 8, 2) := by decide +kernel
theorem dL_isSo_85 : decode cL_isSo 85 = .ok (.aload_n 1, 1) := by decide +kernel
theorem dL_isSo_86 : decode cL_isSo 86 = .ok (.iconst 0, 1) := by decide +kernel
theorem dL_isSo_87 : decode cL_isSo 87 = .ok (.iaload, 1) := by decide +kernel
theorem dL_isSo_88 : decode cL_isSo 88 = .ok (.if_icmp .ge 26, 3) := by decide +kernel
theorem dL_isSo_91 : decode cL_isSo 91 = .ok (.aload_n 2, 1) := by decide +kernel
theorem dL_isSo_92 : decode cL_isSo 92 = .ok (.iload 8, 2) := by decide +kernel
theorem dL_isSo_94 : decode cL_isSo 94 = .ok (.invokestatic 67, 3) := by decide +kernel
theorem dL_isSo_97 : decode cL_isSo 97 = .ok (.bipush 8, 2) := by decide +kernel
theorem dL_isSo_99 : decode cL_isSo 99 = .ok (.imul, 1) := by decide +kernel
theorem dL_isSo_100 : decode cL_isSo 100 = .ok (.iload 8, 2) := by decide +kernel
theorem dL_isSo_102 : decode cL_isSo 102 = .ok (.iadd, 1) := by decide +kernel
theorem dL_isSo_103 : decode cL_isSo 103 = .ok (.iload 6, 2) := by decide +kernel
theorem dL_isSo_105 : decode cL_isSo 105 = .ok (.iconst 1, 1) := by decide +kernel
theorem dL_isSo_106 : decode cL_isSo 106 = .ok (.isub, 1) := by decide +kernel
theorem dL_isSo_107 : decode cL_isSo 107 = .ok (.if_icmp .le 7, 3) := by decide +kernel
theorem dL_isSo_110 : decode cL_isSo 110 = .ok (.iconst 1, 1) := by decide +kernel
theorem dL_isSo_111 : decode cL_isSo 111 = .ok (.goto 4, 3) := by decide +kernel
theorem dL_isSo_114 : decode cL_isSo 114 = .ok (.iconst 0, 1) := by decide +kernel
theorem dL_isSo_115 : decode cL_isSo 115 = .ok (.istore 5, 2) := by decide +kernel
theorem dL_isSo_117 : decode cL_isSo 117 = .ok (.iload 5, 2) := by decide +kernel
theorem dL_isSo_119 : decode cL_isSo 119 = .ok (.ifCond .eq 20, 3) := by decide +kernel
theorem dL_isSo_122 : decode cL_isSo 122 = .ok (.aload_n 2, 1) := by decide +kernel
theorem dL_isSo_123 : decode cL_isSo 123 = .ok (.iload 8, 2) := by decide +kernel
theorem dL_isSo_125 : decode cL_isSo 125 = .ok (.invokestatic 67, 3) := by decide +kernel
theorem dL_isSo_128 : decode cL_isSo 128 = .ok (.bipush 8, 2) := by decide +kernel
theorem dL_isSo_130 : decode cL_isSo 130 = .ok (.imul, 1) := by decide +kernel
theorem dL_isSo_131 : decode cL_isSo 131 = .ok (.iload 8, 2) := by decide +kernel
theorem dL_isSo_133 : decode cL_isSo 133 = .ok (.iadd, 1) := by decide +kernel
theorem dL_isSo_134 : decode cL_isSo 134 = .ok (.iconst 1, 1) := by decide +kernel
theorem dL_isSo_135 : decode cL_isSo 135 = .ok (.iadd, 1) := by decide +kernel
theorem dL_isSo_136 : decode cL_isSo 136 = .ok (.goto 5, 3) := by decide +kernel
theorem dL_isSo_139 : decode cL_isSo 139 = .ok (.iload 6, 2) := by decide +kernel
theorem dL_isSo_141 : decode cL_isSo 141 = .ok (.istore 6, 2) := by decide +kernel
theorem dL_isSo_143 : decode cL_isSo 143 = .ok (.iinc 7 1, 3) := by decide +kernel
theorem dL_isSo_146 : decode cL_isSo 146 = .ok (.goto (-89), 3) := by decide +kernel
theorem dL_isSo_149 : decode cL_isSo 149 = .ok (.iconst 0, 1) := by decide +kernel
theorem dL_isSo_150 : decode cL_isSo 150 = .ok (.istore 7, 2) := by decide +kernel
theorem dL_isSo_152 : decode cL_isSo 152 = .ok (.iload 7, 2) := by decide +kernel
theorem dL_isSo_154 : decode cL_isSo 154 = .ok (.iconst 4, 1) := by decide +kernel
theorem dL_isSo_155 : decode cL_isSo 155 = .ok (.if_icmp .ge 34, 3) := by decide +kernel
theorem dL_isSo_158 : decode cL_isSo 158 = .ok (.iload 5, 2) := by decide +kernel
theorem dL_isSo_160 : decode cL_isSo 160 = .ok (.ifCond .eq 29, 3) := by decide +kernel
theorem dL_isSo_163 : decode cL_isSo 163 = .ok (.aload_n 0, 1) := by decide +kernel
theorem dL_isSo_164 : decode cL_isSo 164 = .ok (.iload 7, 2) := by decide +kernel
theorem dL_isSo_166 : decode cL_isSo 166 = .ok (.invokevirtual 79, 3) := by decide +kernel
theorem dL_isSo_169 : decode cL_isSo 169 = .ok (.aload_n 1, 1) := by decide +kernel
theorem dL_isSo_170 : decode cL_isSo 170 = .ok (.iload 7, 2) := by decide +kernel
theorem dL_isSo_172 : decode cL_isSo 172 = .ok (.iaload, 1) := by decide +kernel
theorem dL_isSo_173 : decode cL_isSo 173 = .ok (.if_icmp .ne 7, 3) := by decide +kernel
theorem dL_isSo_176 : decode cL_isSo 176 = .ok (.iconst 1, 1) := by decide +kernel
theorem dL_isSo_177 : decode cL_isSo 177 = .ok (.goto 4, 3) := by decide +kernel
theorem dL_isSo_180 : decode cL_isSo 180 = .ok (.iconst 0, 1) := by decide +kernel
theorem dL_isSo_181 : decode cL_isSo 181 = .ok (.istore 5, 2) := by decide +kernel
theorem dL_isSo_183 : decode cL_isSo 183 = .ok (.iinc 7 1, 3) := by decide +kernel
theorem dL_isSo_186 : decode cL_isSo 186 = .ok (.goto (-34), 3) := by decide +kernel
theorem dL_isSo_189 : decode cL_isSo 189 = .ok (.iload 5, 2) := by decide +kernel
theorem dL_isSo_191 : decode cL_isSo 191 = .ok (.ifCond .eq 16, 3) := by decide +kernel
theorem dL_isSo_194 : decode cL_isSo 194 = .ok (.aload_n 0, 1) := by decide +kernel
theorem dL_isSo_195 : decode cL_isSo 195 = .ok (.bipush 10, 2) := by decide +kernel
theorem dL_isSo_197 : decode cL_isSo 197 = .ok (.invokevirtual 79, 3) := by decide +kernel
theorem dL_isSo_200 : decode cL_isSo 200 = .ok (.ifCond .ne 7, 3) := by decide +kernel
theorem dL_isSo_203 : decode cL_isSo 203 = .ok (.iconst 1, 1) := by decide +kernel
theorem dL_isSo_204 : decode cL_isSo 204 = .ok (.goto 4, 3) := by decide +kernel
theorem dL_isSo_207 : decode cL_isSo 207 = .ok (.iconst 0, 1) := by decide +kernel
theorem dL_isSo_208 : decode cL_isSo 208 = .ok (.ireturn, 1) := by decide +kernel
theorem dL_law_0 : decode cL_law 0 = .ok (.new 28, 3) := by decide +kernel
theorem dL_law_3 : decode cL_law 3 = .ok (.dup, 1) := by decide +kernel
theorem dL_law_4 : decode cL_law 4 = .ok (.invokespecial 96, 3) := by decide +kernel
theorem dL_law_7 : decode cL_law 7 = .ok (.astore_n 1, 1) := by decide +kernel
theorem dL_law_8 : decode cL_law 8 = .ok (.iconst 4, 1) := by decide +kernel
theorem dL_law_9 : decode cL_law 9 = .ok (.newarray .int, 2) := by decide +kernel
theorem dL_law_11 : decode cL_law 11 = .ok (.astore_n 2, 1) := by decide +kernel
theorem dL_law_12 : decode cL_law 12 = .ok (.bipush 48, 2) := by decide +kernel
theorem dL_law_14 : decode cL_law 14 = .ok (.newarray .int, 2) := by decide +kernel
theorem dL_law_16 : decode cL_law 16 = .ok (.astore_n 3, 1) := by decide +kernel
theorem dL_law_17 : decode cL_law 17 = .ok (.bipush 42, 2) := by decide +kernel
theorem dL_law_19 : decode cL_law 19 = .ok (.newarray .int, 2) := by decide +kernel
theorem dL_law_21 : decode cL_law 21 = .ok (.astore 4, 2) := by decide +kernel
theorem dL_law_23 : decode cL_law 23 = .ok (.bipush 16, 2) := by decide +kernel
theorem dL_law_25 : decode cL_law 25 = .ok (.newarray .int, 2) := by decide +kernel
theorem dL_law_27 : decode cL_law 27 = .ok (.astore 5, 2) := by decide +kernel
theorem dL_law_29 : decode cL_law 29 = .ok (.aload_n 2, 1) := by decide +kernel
theorem dL_law_30 : decode cL_law 30 = .ok (.iconst 3, 1) := by decide +kernel
theorem dL_law_31 : decode cL_law 31 = .ok (.iconst 1, 1) := by decide +kernel
theorem dL_law_32 : decode cL_law 32 = .ok (.iastore, 1) := by decide +kernel
theorem dL_law_33 : decode cL_law 33 = .ok (.aload_n 1, 1) := by decide +kernel
theorem dL_law_34 : decode cL_law 34 = .ok (.iconst 0, 1) := by decide +kernel
theorem dL_law_35 : decode cL_law 35 = .ok (.invokevirtual 79, 3) := by decide +kernel
theorem dL_law_38 : decode cL_law 38 = .ok (.ifCond .ne 7, 3) := by decide +kernel
theorem dL_law_41 : decode cL_law 41 = .ok (.iconst 1, 1) := by decide +kernel
theorem dL_law_42 : decode cL_law 42 = .ok (.goto 4, 3) := by decide +kernel
theorem dL_law_45 : decode cL_law 45 = .ok (.iconst 0, 1) := by decide +kernel
theorem dL_law_46 : decode cL_law 46 = .ok (.istore 6, 2) := by decide +kernel
theorem dL_law_48 : decode cL_law 48 = .ok (.iconst 0, 1) := by decide +kernel
theorem dL_law_49 : decode cL_law 49 = .ok (.istore 7, 2) := by decide +kernel
theorem dL_law_51 : decode cL_law 51 = .ok (.iload 7, 2) := by decide +kernel
theorem dL_law_53 : decode cL_law 53 = .ok (.bipush 6, 2) := by decide +kernel
theorem dL_law_55 : decode cL_law 55 = .ok (.if_icmp .ge 69, 3) := by decide +kernel
theorem dL_law_58 : decode cL_law 58 = .ok (.iload 6, 2) := by decide +kernel
theorem dL_law_60 : decode cL_law 60 = .ok (.ifCond .eq 64, 3) := by decide +kernel
theorem dL_law_63 : decode cL_law 63 = .ok (.aload_n 1, 1) := by decide +kernel
theorem dL_law_64 : decode cL_law 64 = .ok (.aload_n 2, 1) := by decide +kernel
theorem dL_law_65 : decode cL_law 65 = .ok (.aload_n 3, 1) := by decide +kernel
theorem dL_law_66 : decode cL_law 66 = .ok (.aload 4, 2) := by decide +kernel
theorem dL_law_68 : decode cL_law 68 = .ok (.aload 5, 2) := by decide +kernel
theorem dL_law_70 : decode cL_law 70 = .ok (.aload_n 0, 1) := by decide +kernel
theorem dL_law_71 : decode cL_law 71 = .ok (.iconst 1, 1) := by decide +kernel
theorem dL_law_72 : decode cL_law 72 = .ok (.iload 7, 2) := by decide +kernel
theorem dL_law_74 : decode cL_law 74 = .ok (.iadd, 1) := by decide +kernel
theorem dL_law_75 : decode cL_law 75 = .ok (.invokestatic 97, 3) := by decide +kernel
theorem dL_law_78 : decode cL_law 78 = .ok (.ldc 8, 2) := by decide +kernel
theorem dL_law_80 : decode cL_law 80 = .ok (.iand, 1) := by decide +kernel
theorem dL_law_81 : decode cL_law 81 = .ok (.sipush 192, 3) := by decide +kernel
theorem dL_law_84 : decode cL_law 84 = .ok (.idiv, 1) := by decide +kernel
theorem dL_law_85 : decode cL_law 85 = .ok (.sipush 192, 3) := by decide +kernel
theorem dL_law_88 : decode cL_law 88 = .ok (.imul, 1) := by decide +kernel
theorem dL_law_89 : decode cL_law 89 = .ok (.iload 7, 2) := by decide +kernel
theorem dL_law_91 : decode cL_law 91 = .ok (.iconst 3, 1) := by decide +kernel
theorem dL_law_92 : decode cL_law 92 = .ok (.if_icmp .ge 7, 3) := by decide +kernel
theorem dL_law_95 : decode cL_law 95 = .ok (.iconst 0, 1) := by decide +kernel
theorem dL_law_96 : decode cL_law 96 = .ok (.goto 16, 3) := by decide +kernel
theorem dL_law_99 : decode cL_law 99 = .ok (.iload 7, 2) := by decide +kernel
theorem dL_law_101 : decode cL_law 101 = .ok (.iconst 3, 1) := by decide +kernel
theorem dL_law_102 : decode cL_law 102 = .ok (.if_icmp .ne 8, 3) := by decide +kernel
theorem dL_law_105 : decode cL_law 105 = .ok (.bipush 9, 2) := by decide +kernel
theorem dL_law_107 : decode cL_law 107 = .ok (.goto 5, 3) := by decide +kernel
theorem dL_law_110 : decode cL_law 110 = .ok (.bipush 13, 2) := by decide +kernel
theorem dL_law_112 : decode cL_law 112 = .ok (.iadd, 1) := by decide +kernel
theorem dL_law_113 : decode cL_law 113 = .ok (.invokestatic 100, 3) := by decide +kernel
theorem dL_law_116 : decode cL_law 116 = .ok (.istore 6, 2) := by decide +kernel
theorem dL_law_118 : decode cL_law 118 = .ok (.iinc 7 1, 3) := by decide +kernel
theorem dL_law_121 : decode cL_law 121 = .ok (.goto (-70), 3) := by decide +kernel
theorem dL_law_124 : decode cL_law 124 = .ok (.iload 6, 2) := by decide +kernel
theorem dL_law_126 : decode cL_law 126 = .ok (.ifCond .eq 20, 3) := by decide +kernel
theorem dL_law_129 : decode cL_law 129 = .ok (.aload_n 1, 1) := by decide +kernel
theorem dL_law_130 : decode cL_law 130 = .ok (.aload_n 2, 1) := by decide +kernel
theorem dL_law_131 : decode cL_law 131 = .ok (.aload_n 3, 1) := by decide +kernel
theorem dL_law_132 : decode cL_law 132 = .ok (.aload 4, 2) := by decide +kernel
theorem dL_law_134 : decode cL_law 134 = .ok (.aload 5, 2) := by decide +kernel
theorem dL_law_136 : decode cL_law 136 = .ok (.invokestatic 104, 3) := by decide +kernel
theorem dL_law_139 : decode cL_law 139 = .ok (.ifCond .eq 7, 3) := by decide +kernel
theorem dL_law_142 : decode cL_law 142 = .ok (.iconst 1, 1) := by decide +kernel
theorem dL_law_143 : decode cL_law 143 = .ok (.goto 4, 3) := by decide +kernel
theorem dL_law_146 : decode cL_law 146 = .ok (.iconst 0, 1) := by decide +kernel
theorem dL_law_147 : decode cL_law 147 = .ok (.istore 6, 2) := by decide +kernel
theorem dL_law_149 : decode cL_law 149 = .ok (.bipush 16, 2) := by decide +kernel
theorem dL_law_151 : decode cL_law 151 = .ok (.aload_n 0, 1) := by decide +kernel
theorem dL_law_152 : decode cL_law 152 = .ok (.iconst 0, 1) := by decide +kernel
theorem dL_law_153 : decode cL_law 153 = .ok (.invokestatic 97, 3) := by decide +kernel
theorem dL_law_156 : decode cL_law 156 = .ok (.bipush 60, 2) := by decide +kernel
theorem dL_law_158 : decode cL_law 158 = .ok (.invokestatic 47, 3) := by decide +kernel
theorem dL_law_161 : decode cL_law 161 = .ok (.iadd, 1) := by decide +kernel
theorem dL_law_162 : decode cL_law 162 = .ok (.istore 7, 2) := by decide +kernel
theorem dL_law_164 : decode cL_law 164 = .ok (.iconst 0, 1) := by decide +kernel
theorem dL_law_165 : decode cL_law 165 = .ok (.istore 8, 2) := by decide +kernel
theorem dL_law_167 : decode cL_law 167 = .ok (.iload 8, 2) := by decide +kernel
theorem dL_law_169 : decode cL_law 169 = .ok (.iload 7, 2) := by decide +kernel
theorem dL_law_171 : decode cL_law 171 = .ok (.if_icmp .ge 63, 3) := by decide +kernel
theorem dL_law_174 : decode cL_law 174 = .ok (.iload 6, 2) := by decide +kernel
theorem dL_law_176 : decode cL_law 176 = .ok (.ifCond .eq 58, 3) := by decide +kernel
theorem dL_law_179 : decode cL_law 179 = .ok (.aload_n 1, 1) := by decide +kernel
theorem dL_law_180 : decode cL_law 180 = .ok (.aload_n 2, 1) := by decide +kernel
theorem dL_law_181 : decode cL_law 181 = .ok (.aload_n 3, 1) := by decide +kernel
theorem dL_law_182 : decode cL_law 182 = .ok (.aload 4, 2) := by decide +kernel
theorem dL_law_184 : decode cL_law 184 = .ok (.aload 5, 2) := by decide +kernel
theorem dL_law_186 : decode cL_law 186 = .ok (.aload_n 0, 1) := by decide +kernel
theorem dL_law_187 : decode cL_law 187 = .ok (.bipush 7, 2) := by decide +kernel
theorem dL_law_189 : decode cL_law 189 = .ok (.iload 8, 2) := by decide +kernel
theorem dL_law_191 : decode cL_law 191 = .ok (.iadd, 1) := by decide +kernel
theorem dL_law_192 : decode cL_law 192 = .ok (.invokestatic 97, 3) := by decide +kernel
theorem dL_law_195 : decode cL_law 195 = .ok (.sipush 7919, 3) := by decide +kernel
theorem dL_law_198 : decode cL_law 198 = .ok (.iload 8, 2) := by decide +kernel
theorem dL_law_200 : decode cL_law 200 = .ok (.imul, 1) := by decide +kernel
theorem dL_law_201 : decode cL_law 201 = .ok (.ixor, 1) := by decide +kernel
theorem dL_law_202 : decode cL_law 202 = .ok (.invokestatic 100, 3) := by decide +kernel
theorem dL_law_205 : decode cL_law 205 = .ok (.ifCond .eq 20, 3) := by decide +kernel
theorem dL_law_208 : decode cL_law 208 = .ok (.aload_n 1, 1) := by decide +kernel
theorem dL_law_209 : decode cL_law 209 = .ok (.aload_n 2, 1) := by decide +kernel
theorem dL_law_210 : decode cL_law 210 = .ok (.aload_n 3, 1) := by decide +kernel
theorem dL_law_211 : decode cL_law 211 = .ok (.aload 4, 2) := by decide +kernel
theorem dL_law_213 : decode cL_law 213 = .ok (.aload 5, 2) := by decide +kernel
theorem dL_law_215 : decode cL_law 215 = .ok (.invokestatic 104, 3) := by decide +kernel
theorem dL_law_218 : decode cL_law 218 = .ok (.ifCond .eq 7, 3) := by decide +kernel
theorem dL_law_221 : decode cL_law 221 = .ok (.iconst 1, 1) := by decide +kernel
theorem dL_law_222 : decode cL_law 222 = .ok (.goto 4, 3) := by decide +kernel
theorem dL_law_225 : decode cL_law 225 = .ok (.iconst 0, 1) := by decide +kernel
theorem dL_law_226 : decode cL_law 226 = .ok (.istore 6, 2) := by decide +kernel
theorem dL_law_228 : decode cL_law 228 = .ok (.iinc 8 1, 3) := by decide +kernel
theorem dL_law_231 : decode cL_law 231 = .ok (.goto (-64), 3) := by decide +kernel
theorem dL_law_234 : decode cL_law 234 = .ok (.iload 6, 2) := by decide +kernel
theorem dL_law_236 : decode cL_law 236 = .ok (.ifCond .eq 28, 3) := by decide +kernel
theorem dL_law_239 : decode cL_law 239 = .ok (.aload_n 1, 1) := by decide +kernel
theorem dL_law_240 : decode cL_law 240 = .ok (.bipush 11, 2) := by decide +kernel
theorem dL_law_242 : decode cL_law 242 = .ok (.invokevirtual 79, 3) := by decide +kernel
theorem dL_law_245 : decode cL_law 245 = .ok (.ldc 41, 2) := by decide +kernel
theorem dL_law_247 : decode cL_law 247 = .ok (.if_icmp .ne 17, 3) := by decide +kernel
theorem dL_law_250 : decode cL_law 250 = .ok (.aload_n 1, 1) := by decide +kernel
theorem dL_law_251 : decode cL_law 251 = .ok (.iconst (-1), 1) := by decide +kernel
theorem dL_law_252 : decode cL_law 252 = .ok (.invokevirtual 79, 3) := by decide +kernel
theorem dL_law_255 : decode cL_law 255 = .ok (.ldc 41, 2) := by decide +kernel
theorem dL_law_257 : decode cL_law 257 = .ok (.if_icmp .ne 7, 3) := by decide +kernel
theorem dL_law_260 : decode cL_law 260 = .ok (.iconst 1, 1) := by decide +kernel
theorem dL_law_261 : decode cL_law 261 = .ok (.goto 4, 3) := by decide +kernel
theorem dL_law_264 : decode cL_law 264 = .ok (.iconst 0, 1) := by decide +kernel
theorem dL_law_265 : decode cL_law 265 = .ok (.ireturn, 1) := by decide +kernel
abbrev vwCl : List vw_C := [(RX0, TX0, 10), (RX1, TX1, 5), (RX2, TX2, 4), (RX3, TX3, 6), (RX4, TX4, 2), (RX5, TX5, 7), (RX6, TX6, 2), (RX7, TX7, 5)]
end
section
/-! the tables' words by their places: of all that keep (lw_ws), and those between nest mates (nestW) -/
def lw_ws : List Cond := lw_tbl.filter goodWord
theorem ws_mem {w : Cond} (i : Nat) (h : lw_tbl[i]? = some w) (hg : goodWord w = true) : w ∈ lw_ws := List.mem_filter.mpr ⟨List.mem_of_getElem? h, hg⟩
def nestW : List Cond := [Cond.methodLinkNest RX3 27 yX0_init "RenewalClocks", Cond.methodLinkNest RX0 17 yX1_init "RenewalClocks", Cond.fieldLinkNest RX0 67 RX1 "many" "I" "RenewalClocks", Cond.fieldLinkNest RX3 75 RX1 "many" "I" "RenewalClocks", Cond.fieldLinkNest RX0 74 RX1 "sum" "I" "RenewalClocks", Cond.fieldLinkNest RX0 78 RX1 "longest" "I" "RenewalClocks", Cond.fieldLinkNest RX3 68 RX0 "law" "I" "RenewalClocks", Cond.fieldLinkNest RX3 65 RX0 "gap" "I" "RenewalClocks", Cond.fieldLinkNest RX3 113 RX0 "rest" "I" "RenewalClocks", Cond.fieldLinkNest RX3 107 RX0 "passengers" "I" "RenewalClocks", Cond.fieldLinkNest RX3 110 RX0 "waited" "I" "RenewalClocks", Cond.fieldLinkNest RX3 62 RX0 "wound" "I" "RenewalClocks", Cond.fieldLinkNest RX3 71 RX0 "round" "LRenewalClocks$Gaps;" "RenewalClocks", Cond.methodLinkNest RX3 28 yX2_init "RenewalClocks", Cond.fieldLinkNest RX7 112 RX2 "law" "I" "RenewalClocks", Cond.fieldLinkNest RX3 126 RX2 "law" "I" "RenewalClocks", Cond.fieldLinkNest RX7 117 RX2 "members" "I" "RenewalClocks", Cond.fieldLinkNest RX3 134 RX2 "members" "I" "RenewalClocks", Cond.fieldLinkNest RX7 123 RX2 "told" "I" "RenewalClocks", Cond.fieldLinkNest RX7 125 RX2 "met" "I" "RenewalClocks", Cond.fieldLinkNest RX7 155 RX3 "clockCount" "I" "RenewalClocks", Cond.fieldLinkNest RX7 158 RX3 "groupCount" "I" "RenewalClocks", Cond.fieldLinkNest RX7 161 RX3 "now" "I" "RenewalClocks", Cond.fieldLinkNest RX7 164 RX3 "drawn" "I" "RenewalClocks", Cond.fieldLinkNest RX7 173 RX4 "kept" "I" "RenewalClocks", Cond.methodLinkNest RX7 28 yX6_init "RenewalClocks", Cond.fieldLinkNest RX7 176 RX6 "length" "I" "RenewalClocks", Cond.methodLinkNest RX3 45 yX7_isClock "RenewalClocks", Cond.methodLinkNest RX3 116 yX7_isLaw "RenewalClocks"]
theorem nestW_tbl : nestW = [36, 42, 47, 48, 50, 54, 68, 72, 74, 76, 78, 80, 83, 106, 111, 112, 114, 115, 117, 119, 131, 134, 136, 138, 163, 171, 176, 299, 423].filterMap (fun i => lw_tbl[i]?) := by decide +kernel
theorem uin_X0 : ∀ w ∈ u_ws RX0 TX0 10, w ∈ lw_ws := by
  have h1 : u_ws RX0 TX0 10 = [84, 86, 88, 90, 92, 94, 96, 98, 100, 102].filterMap (fun i => lw_tbl[i]?) := by decide +kernel
  have h2 : (u_ws RX0 TX0 10).all goodWord = true := by decide +kernel
  intro w hw
  refine List.mem_filter.mpr ⟨?_, List.all_eq_true.mp h2 w hw⟩
  rw [h1] at hw
  obtain ⟨i, -, hi⟩ := List.mem_filterMap.mp hw
  exact List.mem_of_getElem? hi
theorem uin_X1 : ∀ w ∈ u_ws RX1 TX1 5, w ∈ lw_ws := by
  have h1 : u_ws RX1 TX1 5 = [55, 57, 59, 61, 63].filterMap (fun i => lw_tbl[i]?) := by decide +kernel
  have h2 : (u_ws RX1 TX1 5).all goodWord = true := by decide +kernel
  intro w hw
  refine List.mem_filter.mpr ⟨?_, List.all_eq_true.mp h2 w hw⟩
  rw [h1] at hw
  obtain ⟨i, -, hi⟩ := List.mem_filterMap.mp hw
  exact List.mem_of_getElem? hi
theorem uin_X2 : ∀ w ∈ u_ws RX2 TX2 4, w ∈ lw_ws := by
  have h1 : u_ws RX2 TX2 4 = [120, 122, 124, 126].filterMap (fun i => lw_tbl[i]?) := by decide +kernel
  have h2 : (u_ws RX2 TX2 4).all goodWord = true := by decide +kernel
  intro w hw
  refine List.mem_filter.mpr ⟨?_, List.all_eq_true.mp h2 w hw⟩
  rw [h1] at hw
  obtain ⟨i, -, hi⟩ := List.mem_filterMap.mp hw
  exact List.mem_of_getElem? hi
theorem uin_X3 : ∀ w ∈ u_ws RX3 TX3 6, w ∈ lw_ws := by
  have h1 : u_ws RX3 TX3 6 = [139, 141, 143, 145, 147, 149].filterMap (fun i => lw_tbl[i]?) := by decide +kernel
  have h2 : (u_ws RX3 TX3 6).all goodWord = true := by decide +kernel
  intro w hw
  refine List.mem_filter.mpr ⟨?_, List.all_eq_true.mp h2 w hw⟩
  rw [h1] at hw
  obtain ⟨i, -, hi⟩ := List.mem_filterMap.mp hw
  exact List.mem_of_getElem? hi
theorem uin_X4 : ∀ w ∈ u_ws RX4 TX4 2, w ∈ lw_ws := by
  have h1 : u_ws RX4 TX4 2 = [164, 166].filterMap (fun i => lw_tbl[i]?) := by decide +kernel
  have h2 : (u_ws RX4 TX4 2).all goodWord = true := by decide +kernel
  intro w hw
  refine List.mem_filter.mpr ⟨?_, List.all_eq_true.mp h2 w hw⟩
  rw [h1] at hw
  obtain ⟨i, -, hi⟩ := List.mem_filterMap.mp hw
  exact List.mem_of_getElem? hi
theorem uin_X5 : ∀ w ∈ u_ws RX5 TX5 7, w ∈ lw_ws := by
  have h1 : u_ws RX5 TX5 7 = [191, 193, 195, 197, 199, 201, 203].filterMap (fun i => lw_tbl[i]?) := by decide +kernel
  have h2 : (u_ws RX5 TX5 7).all goodWord = true := by decide +kernel
  intro w hw
  refine List.mem_filter.mpr ⟨?_, List.all_eq_true.mp h2 w hw⟩
  rw [h1] at hw
  obtain ⟨i, -, hi⟩ := List.mem_filterMap.mp hw
  exact List.mem_of_getElem? hi
theorem uin_X6 : ∀ w ∈ u_ws RX6 TX6 2, w ∈ lw_ws := by
  have h1 : u_ws RX6 TX6 2 = [177, 179].filterMap (fun i => lw_tbl[i]?) := by decide +kernel
  have h2 : (u_ws RX6 TX6 2).all goodWord = true := by decide +kernel
  intro w hw
  refine List.mem_filter.mpr ⟨?_, List.all_eq_true.mp h2 w hw⟩
  rw [h1] at hw
  obtain ⟨i, -, hi⟩ := List.mem_filterMap.mp hw
  exact List.mem_of_getElem? hi
theorem uin_X7 : ∀ w ∈ u_ws RX7 TX7 5, w ∈ lw_ws := by
  have h1 : u_ws RX7 TX7 5 = [211, 213, 215, 217, 219].filterMap (fun i => lw_tbl[i]?) := by decide +kernel
  have h2 : (u_ws RX7 TX7 5).all goodWord = true := by decide +kernel
  intro w hw
  refine List.mem_filter.mpr ⟨?_, List.all_eq_true.mp h2 w hw⟩
  rw [h1] at hw
  obtain ⟨i, -, hi⟩ := List.mem_filterMap.mp hw
  exact List.mem_of_getElem? hi
theorem wc_X7_init : Cond.code yX7_init cX7_init 1 none ∈ lw_ws := ws_mem 21 (by decide +kernel) rfl
theorem wc_objInit : Cond.code objectInit ⟨#[0xb1]⟩ 1 none ∈ lw_ws := ws_mem 24 (by decide +kernel) rfl
theorem wc_X3_init : Cond.code yX3_init cX3_init 2 none ∈ lw_ws := ws_mem 29 (by decide +kernel) rfl
theorem wc_X0_init : Cond.code yX0_init cX0_init 1 none ∈ lw_ws := ws_mem 38 (by decide +kernel) rfl
theorem wc_X1_init : Cond.code yX1_init cX1_init 1 none ∈ lw_ws := ws_mem 44 (by decide +kernel) rfl
theorem wc_X2_init : Cond.code yX2_init cX2_init 1 none ∈ lw_ws := ws_mem 108 (by decide +kernel) rfl
theorem wc_X4_init : Cond.code yX4_init cX4_init 2 none ∈ lw_ws := ws_mem 156 (by decide +kernel) rfl
theorem wc_X6_init : Cond.code yX6_init cX6_init 1 none ∈ lw_ws := ws_mem 173 (by decide +kernel) rfl
theorem wc_X5_init : Cond.code yX5_init cX5_init 2 none ∈ lw_ws := ws_mem 187 (by decide +kernel) rfl
theorem wc_X7_count : Cond.code yX7_count cX7_count 2 (some .int) ∈ lw_ws := ws_mem 225 (by decide +kernel) rfl
theorem wc_X3_sumOver : Cond.code yX3_sumOver cX3_sumOver 5 (some .int) ∈ lw_ws := ws_mem 229 (by decide +kernel) rfl
theorem wc_X0_tell : Cond.code yX0_tell cX0_tell 2 (some .int) ∈ lw_ws := ws_mem 233 (by decide +kernel) rfl
theorem wc_X0_age : Cond.code yX0_age cX0_age 1 (some .int) ∈ lw_ws := ws_mem 237 (by decide +kernel) rfl
theorem wc_X3_aboutToTell : Cond.code yX3_aboutToTell cX3_aboutToTell 3 (some .int) ∈ lw_ws := ws_mem 242 (by decide +kernel) rfl
theorem wc_X3_greatestAge : Cond.code yX3_greatestAge cX3_greatestAge 3 (some .int) ∈ lw_ws := ws_mem 246 (by decide +kernel) rfl
theorem wc_J9_max_7cf53 : Cond.code yJ9_max_7cf53 cJ9_max_7cf53 2 (some .int) ∈ lw_ws := ws_mem 251 (by decide +kernel) rfl
theorem wc_L_cell : Cond.code yL_cell cL_cell 2 (some .int) ∈ lw_ws := ws_mem 255 (by decide +kernel) rfl
theorem wc_L_low : Cond.code yL_low cL_low 2 (some .int) ∈ lw_ws := ws_mem 259 (by decide +kernel) rfl
theorem wc_L_acts : Cond.code yL_acts cL_acts 12 (some .boolean) ∈ lw_ws := ws_mem 263 (by decide +kernel) rfl
theorem wc_L_comes : Cond.code yL_comes cL_comes 13 (some .boolean) ∈ lw_ws := ws_mem 267 (by decide +kernel) rfl
theorem wc_X7_clock : Cond.code yX7_clock cX7_clock 6 (some .int) ∈ lw_ws := ws_mem 271 (by decide +kernel) rfl
theorem wc_X4_note : Cond.code yX4_note cX4_note 2 none ∈ lw_ws := ws_mem 275 (by decide +kernel) rfl
theorem wc_X3_copyFrom : Cond.code yX3_copyFrom cX3_copyFrom 3 none ∈ lw_ws := ws_mem 279 (by decide +kernel) rfl
theorem wc_X0_copyFrom : Cond.code yX0_copyFrom cX0_copyFrom 2 none ∈ lw_ws := ws_mem 283 (by decide +kernel) rfl
theorem wc_X1_copyFrom : Cond.code yX1_copyFrom cX1_copyFrom 2 none ∈ lw_ws := ws_mem 290 (by decide +kernel) rfl
theorem wc_X2_copyFrom : Cond.code yX2_copyFrom cX2_copyFrom 2 none ∈ lw_ws := ws_mem 294 (by decide +kernel) rfl
theorem wc_X3_addClock : Cond.code yX3_addClock cX3_addClock 7 (some .int) ∈ lw_ws := ws_mem 298 (by decide +kernel) rfl
theorem wc_X7_isClock : Cond.code yX7_isClock cX7_isClock 5 (some .boolean) ∈ lw_ws := ws_mem 301 (by decide +kernel) rfl
theorem wc_X7_isLaw : Cond.code yX7_isLaw cX7_isLaw 1 (some .boolean) ∈ lw_ws := ws_mem 304 (by decide +kernel) rfl
theorem wc_X7_isGap : Cond.code yX7_isGap cX7_isGap 1 (some .boolean) ∈ lw_ws := ws_mem 307 (by decide +kernel) rfl
theorem wc_X7_mayFollow : Cond.code yX7_mayFollow cX7_mayFollow 2 (some .boolean) ∈ lw_ws := ws_mem 310 (by decide +kernel) rfl
theorem wc_X0_set : Cond.code yX0_set cX0_set 6 none ∈ lw_ws := ws_mem 316 (by decide +kernel) rfl
theorem wc_X1_empty : Cond.code yX1_empty cX1_empty 1 none ∈ lw_ws := ws_mem 320 (by decide +kernel) rfl
theorem wc_X0_fillRound : Cond.code yX0_fillRound cX0_fillRound 2 none ∈ lw_ws := ws_mem 324 (by decide +kernel) rfl
theorem wc_X1_add : Cond.code yX1_add cX1_add 3 none ∈ lw_ws := ws_mem 328 (by decide +kernel) rfl
theorem wc_X3_beginGap : Cond.code yX3_beginGap cX3_beginGap 2 none ∈ lw_ws := ws_mem 332 (by decide +kernel) rfl
theorem wc_X3_draw : Cond.code yX3_draw cX3_draw 2 (some .int) ∈ lw_ws := ws_mem 336 (by decide +kernel) rfl
theorem wc_X0_placeInTurn : Cond.code yX0_placeInTurn cX0_placeInTurn 1 (some .int) ∈ lw_ws := ws_mem 340 (by decide +kernel) rfl
theorem wc_X0_beginAt : Cond.code yX0_beginAt cX0_beginAt 2 none ∈ lw_ws := ws_mem 344 (by decide +kernel) rfl
theorem wc_X7_settle : Cond.code yX7_settle cX7_settle 2 (some .int) ∈ lw_ws := ws_mem 348 (by decide +kernel) rfl
theorem wc_X4_keep : Cond.code yX4_keep cX4_keep 3 none ∈ lw_ws := ws_mem 352 (by decide +kernel) rfl
theorem wc_L_many : Cond.code yL_many cL_many 3 (some .int) ∈ lw_ws := ws_mem 356 (by decide +kernel) rfl
theorem wc_L_begins : Cond.code yL_begins cL_begins 4 none ∈ lw_ws := ws_mem 359 (by decide +kernel) rfl
theorem wc_L_gap : Cond.code yL_gap cL_gap 4 (some .int) ∈ lw_ws := ws_mem 362 (by decide +kernel) rfl
theorem wc_X7_wind : Cond.code yX7_wind cX7_wind 2 (some .int) ∈ lw_ws := ws_mem 366 (by decide +kernel) rfl
theorem wc_X3_windClock : Cond.code yX3_windClock cX3_windClock 3 (some .int) ∈ lw_ws := ws_mem 370 (by decide +kernel) rfl
theorem wc_X3_clockAt : Cond.code yX3_clockAt cX3_clockAt 2 (some (.object "RenewalClocks$Clock")) ∈ lw_ws := ws_mem 374 (by decide +kernel) rfl
theorem wc_X7_passenger : Cond.code yX7_passenger cX7_passenger 2 (some .int) ∈ lw_ws := ws_mem 379 (by decide +kernel) rfl
theorem wc_X3_addPassenger : Cond.code yX3_addPassenger cX3_addPassenger 3 (some .int) ∈ lw_ws := ws_mem 383 (by decide +kernel) rfl
theorem wc_X7_tick : Cond.code yX7_tick cX7_tick 2 (some .int) ∈ lw_ws := ws_mem 387 (by decide +kernel) rfl
theorem wc_X3_endTicks : Cond.code yX3_endTicks cX3_endTicks 4 (some .int) ∈ lw_ws := ws_mem 391 (by decide +kernel) rfl
theorem wc_X3_endTick : Cond.code yX3_endTick cX3_endTick 3 (some .int) ∈ lw_ws := ws_mem 396 (by decide +kernel) rfl
theorem wc_X0_passTick : Cond.code yX0_passTick cX0_passTick 1 (some .boolean) ∈ lw_ws := ws_mem 400 (by decide +kernel) rfl
theorem wc_X2_passTick : Cond.code yX2_passTick cX2_passTick 3 none ∈ lw_ws := ws_mem 404 (by decide +kernel) rfl
theorem wc_J6_bitCount_0f7a4 : Cond.code yJ6_bitCount_0f7a4 cJ6_bitCount_0f7a4 1 (some .int) ∈ lw_ws := ws_mem 407 (by decide +kernel) rfl
theorem wc_L_joins : Cond.code yL_joins cL_joins 10 (some .boolean) ∈ lw_ws := ws_mem 414 (by decide +kernel) rfl
theorem wc_X7_group : Cond.code yX7_group cX7_group 2 (some .int) ∈ lw_ws := ws_mem 418 (by decide +kernel) rfl
theorem wc_X3_addGroup : Cond.code yX3_addGroup cX3_addGroup 2 (some .int) ∈ lw_ws := ws_mem 422 (by decide +kernel) rfl
theorem wc_X2_set : Cond.code yX2_set cX2_set 2 none ∈ lw_ws := ws_mem 427 (by decide +kernel) rfl
theorem wc_X7_join : Cond.code yX7_join cX7_join 3 (some .int) ∈ lw_ws := ws_mem 431 (by decide +kernel) rfl
theorem wc_X3_joinGroup : Cond.code yX3_joinGroup cX3_joinGroup 5 (some .int) ∈ lw_ws := ws_mem 435 (by decide +kernel) rfl
theorem wc_X3_groupAt : Cond.code yX3_groupAt cX3_groupAt 2 (some (.object "RenewalClocks$Group")) ∈ lw_ws := ws_mem 439 (by decide +kernel) rfl
theorem wc_X2_has : Cond.code yX2_has cX2_has 2 (some .boolean) ∈ lw_ws := ws_mem 443 (by decide +kernel) rfl
theorem wc_X2_size : Cond.code yX2_size cX2_size 1 (some .int) ∈ lw_ws := ws_mem 448 (by decide +kernel) rfl
theorem wc_X7_leave : Cond.code yX7_leave cX7_leave 3 (some .int) ∈ lw_ws := ws_mem 452 (by decide +kernel) rfl
theorem wc_X3_leaveGroup : Cond.code yX3_leaveGroup cX3_leaveGroup 4 (some .int) ∈ lw_ws := ws_mem 456 (by decide +kernel) rfl
theorem wc_L_bitsOf : Cond.code yL_bitsOf cL_bitsOf 3 (some .int) ∈ lw_ws := ws_mem 459 (by decide +kernel) rfl
theorem wc_L_rest : Cond.code yL_rest cL_rest 2 (some .int) ∈ lw_ws := ws_mem 463 (by decide +kernel) rfl
theorem wc_L_ticks : Cond.code yL_ticks cL_ticks 7 (some .int) ∈ lw_ws := ws_mem 467 (by decide +kernel) rfl
theorem wc_L_isSo : Cond.code yL_isSo cL_isSo 9 (some .boolean) ∈ lw_ws := ws_mem 470 (by decide +kernel) rfl
theorem wc_L_areClocks : Cond.code yL_areClocks cL_areClocks 14 (some .boolean) ∈ lw_ws := ws_mem 473 (by decide +kernel) rfl
theorem wc_X7_clockOf : Cond.code yX7_clockOf cX7_clockOf 4 (some .int) ∈ lw_ws := ws_mem 477 (by decide +kernel) rfl
theorem wc_L_areGroups : Cond.code yL_areGroups cL_areGroups 10 (some .boolean) ∈ lw_ws := ws_mem 483 (by decide +kernel) rfl
theorem wc_X7_groupOf : Cond.code yX7_groupOf cX7_groupOf 4 (some .int) ∈ lw_ws := ws_mem 487 (by decide +kernel) rfl
theorem wc_X3_leastRest : Cond.code yX3_leastRest cX3_leastRest 5 (some .int) ∈ lw_ws := ws_mem 492 (by decide +kernel) rfl
theorem wc_X7_next : Cond.code yX7_next cX7_next 2 (some .int) ∈ lw_ws := ws_mem 496 (by decide +kernel) rfl
theorem wc_X3_clockInPlace : Cond.code yX3_clockInPlace cX3_clockInPlace 3 (some .int) ∈ lw_ws := ws_mem 500 (by decide +kernel) rfl
theorem wc_X3_clocksAhead : Cond.code yX3_clocksAhead cX3_clocksAhead 6 (some .int) ∈ lw_ws := ws_mem 504 (by decide +kernel) rfl
theorem wz_L : Cond.initialized RL ∈ lw_ws := ws_mem 5 (by decide +kernel) rfl
theorem wz_X7 : Cond.initialized RX7 ∈ lw_ws := ws_mem 6 (by decide +kernel) rfl
theorem wz_X3 : Cond.initialized RX3 ∈ lw_ws := ws_mem 7 (by decide +kernel) rfl
theorem wz_X0 : Cond.initialized RX0 ∈ lw_ws := ws_mem 8 (by decide +kernel) rfl
theorem wz_X1 : Cond.initialized RX1 ∈ lw_ws := ws_mem 9 (by decide +kernel) rfl
theorem wz_X2 : Cond.initialized RX2 ∈ lw_ws := ws_mem 10 (by decide +kernel) rfl
theorem wz_X4 : Cond.initialized RX4 ∈ lw_ws := ws_mem 11 (by decide +kernel) rfl
theorem wz_X6 : Cond.initialized RX6 ∈ lw_ws := ws_mem 12 (by decide +kernel) rfl
theorem wz_X5 : Cond.initialized RX5 ∈ lw_ws := ws_mem 13 (by decide +kernel) rfl
theorem wz_J9 : Cond.initialized RJ9 ∈ lw_ws := ws_mem 14 (by decide +kernel) rfl
theorem wz_J10 : Cond.initialized RJ10 ∈ lw_ws := ws_mem 15 (by decide +kernel) rfl
theorem wz_J6 : Cond.initialized RJ6 ∈ lw_ws := ws_mem 16 (by decide +kernel) rfl
theorem wcl_L_28 : Cond.classLink RL 28 RX7 ∈ lw_ws := ws_mem 17 (by decide +kernel) rfl
theorem win_X7 : Cond.instantiable RX7 5 ∈ lw_ws := ws_mem 18 (by decide +kernel) rfl
theorem wi_X7_init : Cond.instanceMethod yX7_init ∈ lw_ws := ws_mem 20 (by decide +kernel) rfl
theorem wi_objInit : Cond.instanceMethod objectInit ∈ lw_ws := ws_mem 23 (by decide +kernel) rfl
theorem wcl_X7_9 : Cond.classLink RX7 9 RX3 ∈ lw_ws := ws_mem 25 (by decide +kernel) rfl
theorem win_X3 : Cond.instantiable RX3 6 ∈ lw_ws := ws_mem 26 (by decide +kernel) rfl
theorem wi_X3_init : Cond.instanceMethod yX3_init ∈ lw_ws := ws_mem 28 (by decide +kernel) rfl
theorem wcl_X3_9 : Cond.classLink RX3 9 RX0 ∈ lw_ws := ws_mem 31 (by decide +kernel) rfl
theorem wcl_X3_17 : Cond.classLink RX3 17 RX2 ∈ lw_ws := ws_mem 33 (by decide +kernel) rfl
theorem win_X0 : Cond.instantiable RX0 10 ∈ lw_ws := ws_mem 35 (by decide +kernel) rfl
theorem wi_X0_init : Cond.instanceMethod yX0_init ∈ lw_ws := ws_mem 37 (by decide +kernel) rfl
theorem wcl_X0_15 : Cond.classLink RX0 15 RX1 ∈ lw_ws := ws_mem 40 (by decide +kernel) rfl
theorem win_X1 : Cond.instantiable RX1 5 ∈ lw_ws := ws_mem 41 (by decide +kernel) rfl
theorem wi_X1_init : Cond.instanceMethod yX1_init ∈ lw_ws := ws_mem 43 (by decide +kernel) rfl
theorem wac_int : Cond.arrayClass .int ∈ lw_ws := ws_mem 66 (by decide +kernel) rfl
theorem win_X2 : Cond.instantiable RX2 4 ∈ lw_ws := ws_mem 105 (by decide +kernel) rfl
theorem wi_X2_init : Cond.instanceMethod yX2_init ∈ lw_ws := ws_mem 107 (by decide +kernel) rfl
theorem wcl_X7_19 : Cond.classLink RX7 19 RX4 ∈ lw_ws := ws_mem 152 (by decide +kernel) rfl
theorem win_X4 : Cond.instantiable RX4 2 ∈ lw_ws := ws_mem 153 (by decide +kernel) rfl
theorem wi_X4_init : Cond.instanceMethod yX4_init ∈ lw_ws := ws_mem 155 (by decide +kernel) rfl
theorem wcl_X4_9 : Cond.classLink RX4 9 RX3 ∈ lw_ws := ws_mem 158 (by decide +kernel) rfl
theorem wcl_X7_26 : Cond.classLink RX7 26 RX6 ∈ lw_ws := ws_mem 169 (by decide +kernel) rfl
theorem win_X6 : Cond.instantiable RX6 2 ∈ lw_ws := ws_mem 170 (by decide +kernel) rfl
theorem wi_X6_init : Cond.instanceMethod yX6_init ∈ lw_ws := ws_mem 172 (by decide +kernel) rfl
theorem wac_char : Cond.arrayClass .char ∈ lw_ws := ws_mem 182 (by decide +kernel) rfl
theorem wcl_X7_33 : Cond.classLink RX7 33 RX5 ∈ lw_ws := ws_mem 183 (by decide +kernel) rfl
theorem win_X5 : Cond.instantiable RX5 7 ∈ lw_ws := ws_mem 184 (by decide +kernel) rfl
theorem wi_X5_init : Cond.instanceMethod yX5_init ∈ lw_ws := ws_mem 186 (by decide +kernel) rfl
theorem wi_X7_count : Cond.instanceMethod yX7_count ∈ lw_ws := ws_mem 223 (by decide +kernel) rfl
theorem wi_X3_sumOver : Cond.instanceMethod yX3_sumOver ∈ lw_ws := ws_mem 227 (by decide +kernel) rfl
theorem wi_X0_tell : Cond.instanceMethod yX0_tell ∈ lw_ws := ws_mem 231 (by decide +kernel) rfl
theorem wi_X0_age : Cond.instanceMethod yX0_age ∈ lw_ws := ws_mem 235 (by decide +kernel) rfl
theorem wi_X3_aboutToTell : Cond.instanceMethod yX3_aboutToTell ∈ lw_ws := ws_mem 240 (by decide +kernel) rfl
theorem wi_X3_greatestAge : Cond.instanceMethod yX3_greatestAge ∈ lw_ws := ws_mem 244 (by decide +kernel) rfl
theorem wt_J9_max_7cf53 : Cond.static yJ9_max_7cf53 ∈ lw_ws := ws_mem 250 (by decide +kernel) rfl
theorem wt_L_cell : Cond.static yL_cell ∈ lw_ws := ws_mem 254 (by decide +kernel) rfl
theorem wt_L_low : Cond.static yL_low ∈ lw_ws := ws_mem 258 (by decide +kernel) rfl
theorem wt_L_acts : Cond.static yL_acts ∈ lw_ws := ws_mem 262 (by decide +kernel) rfl
theorem wt_L_comes : Cond.static yL_comes ∈ lw_ws := ws_mem 266 (by decide +kernel) rfl
theorem wi_X7_clock : Cond.instanceMethod yX7_clock ∈ lw_ws := ws_mem 269 (by decide +kernel) rfl
theorem wi_X4_note : Cond.instanceMethod yX4_note ∈ lw_ws := ws_mem 273 (by decide +kernel) rfl
theorem wi_X3_copyFrom : Cond.instanceMethod yX3_copyFrom ∈ lw_ws := ws_mem 277 (by decide +kernel) rfl
theorem wi_X0_copyFrom : Cond.instanceMethod yX0_copyFrom ∈ lw_ws := ws_mem 281 (by decide +kernel) rfl
theorem wt_arraycopy : Cond.static arraycopyName ∈ lw_ws := ws_mem 285 (by decide +kernel) rfl
theorem wn_arraycopy : Cond.native arraycopyName ∈ lw_ws := ws_mem 286 (by decide +kernel) rfl
theorem wi_X1_copyFrom : Cond.instanceMethod yX1_copyFrom ∈ lw_ws := ws_mem 288 (by decide +kernel) rfl
theorem wi_X2_copyFrom : Cond.instanceMethod yX2_copyFrom ∈ lw_ws := ws_mem 292 (by decide +kernel) rfl
theorem wi_X3_addClock : Cond.instanceMethod yX3_addClock ∈ lw_ws := ws_mem 296 (by decide +kernel) rfl
theorem wt_X7_isClock : Cond.static yX7_isClock ∈ lw_ws := ws_mem 300 (by decide +kernel) rfl
theorem wt_X7_isLaw : Cond.static yX7_isLaw ∈ lw_ws := ws_mem 303 (by decide +kernel) rfl
theorem wt_X7_isGap : Cond.static yX7_isGap ∈ lw_ws := ws_mem 306 (by decide +kernel) rfl
theorem wt_X7_mayFollow : Cond.static yX7_mayFollow ∈ lw_ws := ws_mem 309 (by decide +kernel) rfl
theorem wi_X0_set : Cond.instanceMethod yX0_set ∈ lw_ws := ws_mem 314 (by decide +kernel) rfl
theorem wi_X1_empty : Cond.instanceMethod yX1_empty ∈ lw_ws := ws_mem 318 (by decide +kernel) rfl
theorem wi_X0_fillRound : Cond.instanceMethod yX0_fillRound ∈ lw_ws := ws_mem 323 (by decide +kernel) rfl
theorem wi_X1_add : Cond.instanceMethod yX1_add ∈ lw_ws := ws_mem 326 (by decide +kernel) rfl
theorem wi_X3_beginGap : Cond.instanceMethod yX3_beginGap ∈ lw_ws := ws_mem 331 (by decide +kernel) rfl
theorem wi_X3_draw : Cond.instanceMethod yX3_draw ∈ lw_ws := ws_mem 335 (by decide +kernel) rfl
theorem wi_X0_placeInTurn : Cond.instanceMethod yX0_placeInTurn ∈ lw_ws := ws_mem 338 (by decide +kernel) rfl
theorem wi_X0_beginAt : Cond.instanceMethod yX0_beginAt ∈ lw_ws := ws_mem 342 (by decide +kernel) rfl
theorem wi_X7_settle : Cond.instanceMethod yX7_settle ∈ lw_ws := ws_mem 347 (by decide +kernel) rfl
theorem wi_X4_keep : Cond.instanceMethod yX4_keep ∈ lw_ws := ws_mem 350 (by decide +kernel) rfl
theorem wt_L_many : Cond.static yL_many ∈ lw_ws := ws_mem 355 (by decide +kernel) rfl
theorem wt_L_begins : Cond.static yL_begins ∈ lw_ws := ws_mem 358 (by decide +kernel) rfl
theorem wt_L_gap : Cond.static yL_gap ∈ lw_ws := ws_mem 361 (by decide +kernel) rfl
theorem wi_X7_wind : Cond.instanceMethod yX7_wind ∈ lw_ws := ws_mem 364 (by decide +kernel) rfl
theorem wi_X3_windClock : Cond.instanceMethod yX3_windClock ∈ lw_ws := ws_mem 368 (by decide +kernel) rfl
theorem wi_X3_clockAt : Cond.instanceMethod yX3_clockAt ∈ lw_ws := ws_mem 372 (by decide +kernel) rfl
theorem wi_X7_passenger : Cond.instanceMethod yX7_passenger ∈ lw_ws := ws_mem 377 (by decide +kernel) rfl
theorem wi_X3_addPassenger : Cond.instanceMethod yX3_addPassenger ∈ lw_ws := ws_mem 381 (by decide +kernel) rfl
theorem wi_X7_tick : Cond.instanceMethod yX7_tick ∈ lw_ws := ws_mem 385 (by decide +kernel) rfl
theorem wi_X3_endTicks : Cond.instanceMethod yX3_endTicks ∈ lw_ws := ws_mem 389 (by decide +kernel) rfl
theorem wi_X3_endTick : Cond.instanceMethod yX3_endTick ∈ lw_ws := ws_mem 394 (by decide +kernel) rfl
theorem wi_X0_passTick : Cond.instanceMethod yX0_passTick ∈ lw_ws := ws_mem 398 (by decide +kernel) rfl
theorem wi_X2_passTick : Cond.instanceMethod yX2_passTick ∈ lw_ws := ws_mem 402 (by decide +kernel) rfl
theorem wt_J6_bitCount_0f7a4 : Cond.static yJ6_bitCount_0f7a4 ∈ lw_ws := ws_mem 406 (by decide +kernel) rfl
theorem wt_L_joins : Cond.static yL_joins ∈ lw_ws := ws_mem 413 (by decide +kernel) rfl
theorem wi_X7_group : Cond.instanceMethod yX7_group ∈ lw_ws := ws_mem 416 (by decide +kernel) rfl
theorem wi_X3_addGroup : Cond.instanceMethod yX3_addGroup ∈ lw_ws := ws_mem 420 (by decide +kernel) rfl
theorem wi_X2_set : Cond.instanceMethod yX2_set ∈ lw_ws := ws_mem 425 (by decide +kernel) rfl
theorem wi_X7_join : Cond.instanceMethod yX7_join ∈ lw_ws := ws_mem 429 (by decide +kernel) rfl
theorem wi_X3_joinGroup : Cond.instanceMethod yX3_joinGroup ∈ lw_ws := ws_mem 433 (by decide +kernel) rfl
theorem wi_X3_groupAt : Cond.instanceMethod yX3_groupAt ∈ lw_ws := ws_mem 437 (by decide +kernel) rfl
theorem wi_X2_has : Cond.instanceMethod yX2_has ∈ lw_ws := ws_mem 441 (by decide +kernel) rfl
theorem wi_X2_size : Cond.instanceMethod yX2_size ∈ lw_ws := ws_mem 446 (by decide +kernel) rfl
theorem wi_X7_leave : Cond.instanceMethod yX7_leave ∈ lw_ws := ws_mem 450 (by decide +kernel) rfl
theorem wi_X3_leaveGroup : Cond.instanceMethod yX3_leaveGroup ∈ lw_ws := ws_mem 454 (by decide +kernel) rfl
theorem wt_L_bitsOf : Cond.static yL_bitsOf ∈ lw_ws := ws_mem 458 (by decide +kernel) rfl
theorem wt_L_rest : Cond.static yL_rest ∈ lw_ws := ws_mem 462 (by decide +kernel) rfl
theorem wt_L_ticks : Cond.static yL_ticks ∈ lw_ws := ws_mem 466 (by decide +kernel) rfl
theorem wt_L_isSo : Cond.static yL_isSo ∈ lw_ws := ws_mem 469 (by decide +kernel) rfl
theorem wt_L_areClocks : Cond.static yL_areClocks ∈ lw_ws := ws_mem 472 (by decide +kernel) rfl
theorem wi_X7_clockOf : Cond.instanceMethod yX7_clockOf ∈ lw_ws := ws_mem 475 (by decide +kernel) rfl
theorem wt_L_areGroups : Cond.static yL_areGroups ∈ lw_ws := ws_mem 482 (by decide +kernel) rfl
theorem wi_X7_groupOf : Cond.instanceMethod yX7_groupOf ∈ lw_ws := ws_mem 485 (by decide +kernel) rfl
theorem wi_X3_leastRest : Cond.instanceMethod yX3_leastRest ∈ lw_ws := ws_mem 490 (by decide +kernel) rfl
theorem wi_X7_next : Cond.instanceMethod yX7_next ∈ lw_ws := ws_mem 494 (by decide +kernel) rfl
theorem wi_X3_clockInPlace : Cond.instanceMethod yX3_clockInPlace ∈ lw_ws := ws_mem 498 (by decide +kernel) rfl
theorem wi_X3_clocksAhead : Cond.instanceMethod yX3_clocksAhead ∈ lw_ws := ws_mem 503 (by decide +kernel) rfl
theorem ws_X7_count : Cond.selects RX7 yX7_count yX7_count ∈ lw_ws := ws_mem 224 (by decide +kernel) rfl
theorem ws_X3_sumOver : Cond.selects RX3 yX3_sumOver yX3_sumOver ∈ lw_ws := ws_mem 228 (by decide +kernel) rfl
theorem ws_X0_tell : Cond.selects RX0 yX0_tell yX0_tell ∈ lw_ws := ws_mem 232 (by decide +kernel) rfl
theorem ws_X0_age : Cond.selects RX0 yX0_age yX0_age ∈ lw_ws := ws_mem 236 (by decide +kernel) rfl
theorem ws_X3_aboutToTell : Cond.selects RX3 yX3_aboutToTell yX3_aboutToTell ∈ lw_ws := ws_mem 241 (by decide +kernel) rfl
theorem ws_X3_greatestAge : Cond.selects RX3 yX3_greatestAge yX3_greatestAge ∈ lw_ws := ws_mem 245 (by decide +kernel) rfl
theorem ws_X7_clock : Cond.selects RX7 yX7_clock yX7_clock ∈ lw_ws := ws_mem 270 (by decide +kernel) rfl
theorem ws_X4_note : Cond.selects RX4 yX4_note yX4_note ∈ lw_ws := ws_mem 274 (by decide +kernel) rfl
theorem ws_X3_copyFrom : Cond.selects RX3 yX3_copyFrom yX3_copyFrom ∈ lw_ws := ws_mem 278 (by decide +kernel) rfl
theorem ws_X0_copyFrom : Cond.selects RX0 yX0_copyFrom yX0_copyFrom ∈ lw_ws := ws_mem 282 (by decide +kernel) rfl
theorem ws_X1_copyFrom : Cond.selects RX1 yX1_copyFrom yX1_copyFrom ∈ lw_ws := ws_mem 289 (by decide +kernel) rfl
theorem ws_X2_copyFrom : Cond.selects RX2 yX2_copyFrom yX2_copyFrom ∈ lw_ws := ws_mem 293 (by decide +kernel) rfl
theorem ws_X3_addClock : Cond.selects RX3 yX3_addClock yX3_addClock ∈ lw_ws := ws_mem 297 (by decide +kernel) rfl
theorem ws_X0_set : Cond.selects RX0 yX0_set yX0_set ∈ lw_ws := ws_mem 315 (by decide +kernel) rfl
theorem ws_X1_empty : Cond.selects RX1 yX1_empty yX1_empty ∈ lw_ws := ws_mem 319 (by decide +kernel) rfl
theorem ws_X1_add : Cond.selects RX1 yX1_add yX1_add ∈ lw_ws := ws_mem 327 (by decide +kernel) rfl
theorem ws_X0_placeInTurn : Cond.selects RX0 yX0_placeInTurn yX0_placeInTurn ∈ lw_ws := ws_mem 339 (by decide +kernel) rfl
theorem ws_X0_beginAt : Cond.selects RX0 yX0_beginAt yX0_beginAt ∈ lw_ws := ws_mem 343 (by decide +kernel) rfl
theorem ws_X4_keep : Cond.selects RX4 yX4_keep yX4_keep ∈ lw_ws := ws_mem 351 (by decide +kernel) rfl
theorem ws_X7_wind : Cond.selects RX7 yX7_wind yX7_wind ∈ lw_ws := ws_mem 365 (by decide +kernel) rfl
theorem ws_X3_windClock : Cond.selects RX3 yX3_windClock yX3_windClock ∈ lw_ws := ws_mem 369 (by decide +kernel) rfl
theorem ws_X3_clockAt : Cond.selects RX3 yX3_clockAt yX3_clockAt ∈ lw_ws := ws_mem 373 (by decide +kernel) rfl
theorem ws_X7_passenger : Cond.selects RX7 yX7_passenger yX7_passenger ∈ lw_ws := ws_mem 378 (by decide +kernel) rfl
theorem ws_X3_addPassenger : Cond.selects RX3 yX3_addPassenger yX3_addPassenger ∈ lw_ws := ws_mem 382 (by decide +kernel) rfl
theorem ws_X7_tick : Cond.selects RX7 yX7_tick yX7_tick ∈ lw_ws := ws_mem 386 (by decide +kernel) rfl
theorem ws_X3_endTicks : Cond.selects RX3 yX3_endTicks yX3_endTicks ∈ lw_ws := ws_mem 390 (by decide +kernel) rfl
theorem ws_X3_endTick : Cond.selects RX3 yX3_endTick yX3_endTick ∈ lw_ws := ws_mem 395 (by decide +kernel) rfl
theorem ws_X0_passTick : Cond.selects RX0 yX0_passTick yX0_passTick ∈ lw_ws := ws_mem 399 (by decide +kernel) rfl
theorem ws_X2_passTick : Cond.selects RX2 yX2_passTick yX2_passTick ∈ lw_ws := ws_mem 403 (by decide +kernel) rfl
theorem ws_X7_group : Cond.selects RX7 yX7_group yX7_group ∈ lw_ws := ws_mem 417 (by decide +kernel) rfl
theorem ws_X3_addGroup : Cond.selects RX3 yX3_addGroup yX3_addGroup ∈ lw_ws := ws_mem 421 (by decide +kernel) rfl
theorem ws_X2_set : Cond.selects RX2 yX2_set yX2_set ∈ lw_ws := ws_mem 426 (by decide +kernel) rfl
theorem ws_X7_join : Cond.selects RX7 yX7_join yX7_join ∈ lw_ws := ws_mem 430 (by decide +kernel) rfl
theorem ws_X3_joinGroup : Cond.selects RX3 yX3_joinGroup yX3_joinGroup ∈ lw_ws := ws_mem 434 (by decide +kernel) rfl
theorem ws_X3_groupAt : Cond.selects RX3 yX3_groupAt yX3_groupAt ∈ lw_ws := ws_mem 438 (by decide +kernel) rfl
theorem ws_X2_has : Cond.selects RX2 yX2_has yX2_has ∈ lw_ws := ws_mem 442 (by decide +kernel) rfl
theorem ws_X2_size : Cond.selects RX2 yX2_size yX2_size ∈ lw_ws := ws_mem 447 (by decide +kernel) rfl
theorem ws_X7_leave : Cond.selects RX7 yX7_leave yX7_leave ∈ lw_ws := ws_mem 451 (by decide +kernel) rfl
theorem ws_X3_leaveGroup : Cond.selects RX3 yX3_leaveGroup yX3_leaveGroup ∈ lw_ws := ws_mem 455 (by decide +kernel) rfl
theorem ws_X7_clockOf : Cond.selects RX7 yX7_clockOf yX7_clockOf ∈ lw_ws := ws_mem 476 (by decide +kernel) rfl
theorem ws_X7_groupOf : Cond.selects RX7 yX7_groupOf yX7_groupOf ∈ lw_ws := ws_mem 486 (by decide +kernel) rfl
theorem ws_X3_leastRest : Cond.selects RX3 yX3_leastRest yX3_leastRest ∈ lw_ws := ws_mem 491 (by decide +kernel) rfl
theorem ws_X7_next : Cond.selects RX7 yX7_next yX7_next ∈ lw_ws := ws_mem 495 (by decide +kernel) rfl
theorem ws_X3_clockInPlace : Cond.selects RX3 yX3_clockInPlace yX3_clockInPlace ∈ lw_ws := ws_mem 499 (by decide +kernel) rfl
theorem ws_X0_fillRound : Cond.selects RX0 yX0_fillRound yX0_fillRound ∈ lw_ws := ws_mem 0 (by decide +kernel) rfl
theorem ws_X3_beginGap : Cond.selects RX3 yX3_beginGap yX3_beginGap ∈ lw_ws := ws_mem 1 (by decide +kernel) rfl
theorem ws_X3_draw : Cond.selects RX3 yX3_draw yX3_draw ∈ lw_ws := ws_mem 2 (by decide +kernel) rfl
theorem ws_X7_settle : Cond.selects RX7 yX7_settle yX7_settle ∈ lw_ws := ws_mem 3 (by decide +kernel) rfl
theorem ws_X3_clocksAhead : Cond.selects RX3 yX3_clocksAhead yX3_clocksAhead ∈ lw_ws := ws_mem 4 (by decide +kernel) rfl
theorem wl_X7_108 : Cond.methodLink RX7 108 yX3_groupAt ∈ lw_ws := ws_mem 488 (by decide +kernel) rfl
theorem wl_X7_11 : Cond.methodLink RX7 11 yX3_init ∈ lw_ws := ws_mem 27 (by decide +kernel) rfl
theorem wl_X7_120 : Cond.methodLink RX7 120 yX3_leastRest ∈ lw_ws := ws_mem 489 (by decide +kernel) rfl
theorem wl_X7_128 : Cond.methodLink RX7 128 yX3_sumOver ∈ lw_ws := ws_mem 226 (by decide +kernel) rfl
theorem wl_X7_131 : Cond.methodLink RX7 131 yX3_clockInPlace ∈ lw_ws := ws_mem 497 (by decide +kernel) rfl
theorem wl_X7_167 : Cond.methodLink RX7 167 yX3_aboutToTell ∈ lw_ws := ws_mem 239 (by decide +kernel) rfl
theorem wl_X7_170 : Cond.methodLink RX7 170 yX3_greatestAge ∈ lw_ws := ws_mem 243 (by decide +kernel) rfl
theorem wl_X7_203 : Cond.methodLink RX7 203 yX4_keep ∈ lw_ws := ws_mem 349 (by decide +kernel) rfl
theorem wl_X7_21 : Cond.methodLink RX7 21 yX4_init ∈ lw_ws := ws_mem 154 (by decide +kernel) rfl
theorem wl_X7_212 : Cond.methodLink RX7 212 yX7_isLaw ∈ lw_ws := ws_mem 302 (by decide +kernel) rfl
theorem wl_X7_216 : Cond.methodLink RX7 216 yX7_isGap ∈ lw_ws := ws_mem 305 (by decide +kernel) rfl
theorem wl_X7_219 : Cond.methodLink RX7 219 yX7_mayFollow ∈ lw_ws := ws_mem 308 (by decide +kernel) rfl
theorem wl_X7_3 : Cond.methodLink RX7 3 objectInit ∈ lw_ws := ws_mem 22 (by decide +kernel) rfl
theorem wl_X7_35 : Cond.methodLink RX7 35 yX5_init ∈ lw_ws := ws_mem 185 (by decide +kernel) rfl
theorem wl_X7_42 : Cond.methodLink RX7 42 yX4_note ∈ lw_ws := ws_mem 272 (by decide +kernel) rfl
theorem wl_X7_46 : Cond.methodLink RX7 46 yX3_addClock ∈ lw_ws := ws_mem 295 (by decide +kernel) rfl
theorem wl_X7_50 : Cond.methodLink RX7 50 yX7_settle ∈ lw_ws := ws_mem 345 (by decide +kernel) rfl
theorem wl_X7_54 : Cond.methodLink RX7 54 yX3_windClock ∈ lw_ws := ws_mem 367 (by decide +kernel) rfl
theorem wl_X7_57 : Cond.methodLink RX7 57 yX3_endTicks ∈ lw_ws := ws_mem 388 (by decide +kernel) rfl
theorem wl_X7_60 : Cond.methodLink RX7 60 yX3_addPassenger ∈ lw_ws := ws_mem 380 (by decide +kernel) rfl
theorem wl_X7_63 : Cond.methodLink RX7 63 yX3_addGroup ∈ lw_ws := ws_mem 419 (by decide +kernel) rfl
theorem wl_X7_66 : Cond.methodLink RX7 66 yX3_joinGroup ∈ lw_ws := ws_mem 432 (by decide +kernel) rfl
theorem wl_X7_70 : Cond.methodLink RX7 70 yX3_leaveGroup ∈ lw_ws := ws_mem 453 (by decide +kernel) rfl
theorem wl_X7_73 : Cond.methodLink RX7 73 yX3_clockAt ∈ lw_ws := ws_mem 478 (by decide +kernel) rfl
theorem wl_X7_78 : Cond.methodLink RX7 78 yX0_tell ∈ lw_ws := ws_mem 479 (by decide +kernel) rfl
theorem wl_X0_3 : Cond.methodLink RX0 3 objectInit ∈ lw_ws := ws_mem 39 (by decide +kernel) rfl
theorem wl_X0_47 : Cond.methodLink RX0 47 yX1_empty ∈ lw_ws := ws_mem 317 (by decide +kernel) rfl
theorem wl_X0_50 : Cond.methodLink RX0 50 yX0_fillRound ∈ lw_ws := ws_mem 321 (by decide +kernel) rfl
theorem wl_X0_53 : Cond.methodLink RX0 53 yX1_add ∈ lw_ws := ws_mem 325 (by decide +kernel) rfl
theorem wl_X0_57 : Cond.methodLink RX0 57 arraycopyName ∈ lw_ws := ws_mem 284 (by decide +kernel) rfl
theorem wl_X0_63 : Cond.methodLink RX0 63 yX1_copyFrom ∈ lw_ws := ws_mem 287 (by decide +kernel) rfl
theorem wl_X0_70 : Cond.methodLink RX0 70 yX0_age ∈ lw_ws := ws_mem 234 (by decide +kernel) rfl
theorem wl_X1_1 : Cond.methodLink RX1 1 objectInit ∈ lw_ws := ws_mem 45 (by decide +kernel) rfl
theorem wl_X2_1 : Cond.methodLink RX2 1 objectInit ∈ lw_ws := ws_mem 109 (by decide +kernel) rfl
theorem wl_X2_22 : Cond.methodLink RX2 22 yJ6_bitCount_0f7a4 ∈ lw_ws := ws_mem 405 (by decide +kernel) rfl
theorem wl_X3_100 : Cond.methodLink RX3 100 yX2_passTick ∈ lw_ws := ws_mem 401 (by decide +kernel) rfl
theorem wl_X3_102 : Cond.methodLink RX3 102 yJ6_bitCount_0f7a4 ∈ lw_ws := ws_mem 411 (by decide +kernel) rfl
theorem wl_X3_120 : Cond.methodLink RX3 120 yX2_set ∈ lw_ws := ws_mem 424 (by decide +kernel) rfl
theorem wl_X3_122 : Cond.methodLink RX3 122 yX3_groupAt ∈ lw_ws := ws_mem 436 (by decide +kernel) rfl
theorem wl_X3_127 : Cond.methodLink RX3 127 yX2_has ∈ lw_ws := ws_mem 440 (by decide +kernel) rfl
theorem wl_X3_131 : Cond.methodLink RX3 131 yX2_size ∈ lw_ws := ws_mem 445 (by decide +kernel) rfl
theorem wl_X3_138 : Cond.methodLink RX3 138 yX0_tell ∈ lw_ws := ws_mem 230 (by decide +kernel) rfl
theorem wl_X3_141 : Cond.methodLink RX3 141 yX3_clocksAhead ∈ lw_ws := ws_mem 501 (by decide +kernel) rfl
theorem wl_X3_149 : Cond.methodLink RX3 149 yX0_age ∈ lw_ws := ws_mem 248 (by decide +kernel) rfl
theorem wl_X3_152 : Cond.methodLink RX3 152 yJ9_max_7cf53 ∈ lw_ws := ws_mem 249 (by decide +kernel) rfl
theorem wl_X3_3 : Cond.methodLink RX3 3 objectInit ∈ lw_ws := ws_mem 30 (by decide +kernel) rfl
theorem wl_X3_32 : Cond.methodLink RX3 32 yX0_copyFrom ∈ lw_ws := ws_mem 280 (by decide +kernel) rfl
theorem wl_X3_39 : Cond.methodLink RX3 39 yX2_copyFrom ∈ lw_ws := ws_mem 291 (by decide +kernel) rfl
theorem wl_X3_51 : Cond.methodLink RX3 51 yX0_set ∈ lw_ws := ws_mem 313 (by decide +kernel) rfl
theorem wl_X3_55 : Cond.methodLink RX3 55 yX3_beginGap ∈ lw_ws := ws_mem 329 (by decide +kernel) rfl
theorem wl_X3_58 : Cond.methodLink RX3 58 yX3_clockAt ∈ lw_ws := ws_mem 371 (by decide +kernel) rfl
theorem wl_X3_80 : Cond.methodLink RX3 80 yX3_draw ∈ lw_ws := ws_mem 333 (by decide +kernel) rfl
theorem wl_X3_84 : Cond.methodLink RX3 84 yX0_placeInTurn ∈ lw_ws := ws_mem 337 (by decide +kernel) rfl
theorem wl_X3_88 : Cond.methodLink RX3 88 yX0_beginAt ∈ lw_ws := ws_mem 341 (by decide +kernel) rfl
theorem wl_X3_93 : Cond.methodLink RX3 93 yX3_endTick ∈ lw_ws := ws_mem 393 (by decide +kernel) rfl
theorem wl_X3_96 : Cond.methodLink RX3 96 yX0_passTick ∈ lw_ws := ws_mem 397 (by decide +kernel) rfl
theorem wl_X4_17 : Cond.methodLink RX4 17 yX3_init ∈ lw_ws := ws_mem 160 (by decide +kernel) rfl
theorem wl_X4_22 : Cond.methodLink RX4 22 yX3_copyFrom ∈ lw_ws := ws_mem 276 (by decide +kernel) rfl
theorem wl_X4_3 : Cond.methodLink RX4 3 objectInit ∈ lw_ws := ws_mem 157 (by decide +kernel) rfl
theorem wl_X5_3 : Cond.methodLink RX5 3 objectInit ∈ lw_ws := ws_mem 188 (by decide +kernel) rfl
theorem wl_X6_3 : Cond.methodLink RX6 3 objectInit ∈ lw_ws := ws_mem 174 (by decide +kernel) rfl
theorem wl_L_100 : Cond.methodLink RL 100 yL_acts ∈ lw_ws := ws_mem 261 (by decide +kernel) rfl
theorem wl_L_104 : Cond.methodLink RL 104 yL_isSo ∈ lw_ws := ws_mem 468 (by decide +kernel) rfl
theorem wl_L_15 : Cond.methodLink RL 15 yL_gap ∈ lw_ws := ws_mem 360 (by decide +kernel) rfl
theorem wl_L_19 : Cond.methodLink RL 19 yL_begins ∈ lw_ws := ws_mem 357 (by decide +kernel) rfl
theorem wl_L_23 : Cond.methodLink RL 23 yL_bitsOf ∈ lw_ws := ws_mem 457 (by decide +kernel) rfl
theorem wl_L_27 : Cond.methodLink RL 27 yX7_clock ∈ lw_ws := ws_mem 268 (by decide +kernel) rfl
theorem wl_L_34 : Cond.methodLink RL 34 yX7_group ∈ lw_ws := ws_mem 415 (by decide +kernel) rfl
theorem wl_L_37 : Cond.methodLink RL 37 yX7_join ∈ lw_ws := ws_mem 428 (by decide +kernel) rfl
theorem wl_L_42 : Cond.methodLink RL 42 yX7_leave ∈ lw_ws := ws_mem 449 (by decide +kernel) rfl
theorem wl_L_47 : Cond.methodLink RL 47 yL_low ∈ lw_ws := ws_mem 257 (by decide +kernel) rfl
theorem wl_L_50 : Cond.methodLink RL 50 yL_comes ∈ lw_ws := ws_mem 265 (by decide +kernel) rfl
theorem wl_L_54 : Cond.methodLink RL 54 yX7_wind ∈ lw_ws := ws_mem 363 (by decide +kernel) rfl
theorem wl_L_57 : Cond.methodLink RL 57 yX7_passenger ∈ lw_ws := ws_mem 376 (by decide +kernel) rfl
theorem wl_L_60 : Cond.methodLink RL 60 yX7_tick ∈ lw_ws := ws_mem 384 (by decide +kernel) rfl
theorem wl_L_63 : Cond.methodLink RL 63 yL_joins ∈ lw_ws := ws_mem 412 (by decide +kernel) rfl
theorem wl_L_67 : Cond.methodLink RL 67 yL_rest ∈ lw_ws := ws_mem 461 (by decide +kernel) rfl
theorem wl_L_71 : Cond.methodLink RL 71 yL_ticks ∈ lw_ws := ws_mem 465 (by decide +kernel) rfl
theorem wl_L_75 : Cond.methodLink RL 75 yX7_clockOf ∈ lw_ws := ws_mem 474 (by decide +kernel) rfl
theorem wl_L_79 : Cond.methodLink RL 79 yX7_count ∈ lw_ws := ws_mem 222 (by decide +kernel) rfl
theorem wl_L_82 : Cond.methodLink RL 82 yX7_groupOf ∈ lw_ws := ws_mem 484 (by decide +kernel) rfl
theorem wl_L_85 : Cond.methodLink RL 85 yL_areClocks ∈ lw_ws := ws_mem 471 (by decide +kernel) rfl
theorem wl_L_89 : Cond.methodLink RL 89 yL_areGroups ∈ lw_ws := ws_mem 481 (by decide +kernel) rfl
theorem wl_L_9 : Cond.methodLink RL 9 yL_many ∈ lw_ws := ws_mem 354 (by decide +kernel) rfl
theorem wl_L_93 : Cond.methodLink RL 93 yX7_next ∈ lw_ws := ws_mem 493 (by decide +kernel) rfl
theorem wl_L_96 : Cond.methodLink RL 96 yX7_init ∈ lw_ws := ws_mem 19 (by decide +kernel) rfl
theorem wl_L_97 : Cond.methodLink RL 97 yL_cell ∈ lw_ws := ws_mem 253 (by decide +kernel) rfl
theorem wf_X7_112 : Cond.fieldLinkNest RX7 112 RX2 "law" "I" "RenewalClocks" ∈ nestW := List.mem_of_getElem? (i := 14) rfl
theorem wf_X7_117 : Cond.fieldLinkNest RX7 117 RX2 "members" "I" "RenewalClocks" ∈ nestW := List.mem_of_getElem? (i := 16) rfl
theorem wf_X7_12 : Cond.fieldLink RX7 12 RX7 "hall" "LRenewalClocks$Hall;" ∈ lw_ws := ws_mem 206 (by decide +kernel) rfl
theorem wf_X7_123 : Cond.fieldLinkNest RX7 123 RX2 "told" "I" "RenewalClocks" ∈ nestW := List.mem_of_getElem? (i := 18) rfl
theorem wf_X7_125 : Cond.fieldLinkNest RX7 125 RX2 "met" "I" "RenewalClocks" ∈ nestW := List.mem_of_getElem? (i := 19) rfl
theorem wf_X7_155 : Cond.fieldLinkNest RX7 155 RX3 "clockCount" "I" "RenewalClocks" ∈ nestW := List.mem_of_getElem? (i := 20) rfl
theorem wf_X7_158 : Cond.fieldLinkNest RX7 158 RX3 "groupCount" "I" "RenewalClocks" ∈ nestW := List.mem_of_getElem? (i := 21) rfl
theorem wf_X7_16 : Cond.fieldLink RX7 16 RX7 "trial" "LRenewalClocks$Hall;" ∈ lw_ws := ws_mem 207 (by decide +kernel) rfl
theorem wf_X7_161 : Cond.fieldLinkNest RX7 161 RX3 "now" "I" "RenewalClocks" ∈ nestW := List.mem_of_getElem? (i := 22) rfl
theorem wf_X7_164 : Cond.fieldLinkNest RX7 164 RX3 "drawn" "I" "RenewalClocks" ∈ nestW := List.mem_of_getElem? (i := 23) rfl
theorem wf_X7_173 : Cond.fieldLinkNest RX7 173 RX4 "kept" "I" "RenewalClocks" ∈ nestW := List.mem_of_getElem? (i := 24) rfl
theorem wf_X7_176 : Cond.fieldLinkNest RX7 176 RX6 "length" "I" "RenewalClocks" ∈ nestW := List.mem_of_getElem? (i := 26) rfl
theorem wf_X7_22 : Cond.fieldLink RX7 22 RX7 "history" "LRenewalClocks$History;" ∈ lw_ws := ws_mem 208 (by decide +kernel) rfl
theorem wf_X7_29 : Cond.fieldLink RX7 29 RX7 "text" "LRenewalClocks$Text;" ∈ lw_ws := ws_mem 209 (by decide +kernel) rfl
theorem wf_X7_38 : Cond.fieldLink RX7 38 RX7 "orders" "LRenewalClocks$Orders;" ∈ lw_ws := ws_mem 210 (by decide +kernel) rfl
theorem wf_X0_18 : Cond.fieldLink RX0 18 RX0 "told" "LRenewalClocks$Gaps;" ∈ lw_ws := ws_mem 81 (by decide +kernel) rfl
theorem wf_X0_22 : Cond.fieldLink RX0 22 RX0 "round" "LRenewalClocks$Gaps;" ∈ lw_ws := ws_mem 82 (by decide +kernel) rfl
theorem wf_X0_25 : Cond.fieldLink RX0 25 RX0 "law" "I" ∈ lw_ws := ws_mem 67 (by decide +kernel) rfl
theorem wf_X0_29 : Cond.fieldLink RX0 29 RX0 "place" "I" ∈ lw_ws := ws_mem 70 (by decide +kernel) rfl
theorem wf_X0_32 : Cond.fieldLink RX0 32 RX0 "gap" "I" ∈ lw_ws := ws_mem 71 (by decide +kernel) rfl
theorem wf_X0_35 : Cond.fieldLink RX0 35 RX0 "rest" "I" ∈ lw_ws := ws_mem 73 (by decide +kernel) rfl
theorem wf_X0_38 : Cond.fieldLink RX0 38 RX0 "passengers" "I" ∈ lw_ws := ws_mem 75 (by decide +kernel) rfl
theorem wf_X0_41 : Cond.fieldLink RX0 41 RX0 "waited" "I" ∈ lw_ws := ws_mem 77 (by decide +kernel) rfl
theorem wf_X0_44 : Cond.fieldLink RX0 44 RX0 "wound" "I" ∈ lw_ws := ws_mem 79 (by decide +kernel) rfl
theorem wf_X0_67 : Cond.fieldLinkNest RX0 67 RX1 "many" "I" "RenewalClocks" ∈ nestW := List.mem_of_getElem? (i := 2) rfl
theorem wf_X0_74 : Cond.fieldLinkNest RX0 74 RX1 "sum" "I" "RenewalClocks" ∈ nestW := List.mem_of_getElem? (i := 4) rfl
theorem wf_X0_78 : Cond.fieldLinkNest RX0 78 RX1 "longest" "I" "RenewalClocks" ∈ nestW := List.mem_of_getElem? (i := 5) rfl
theorem wf_X0_9 : Cond.fieldLink RX0 9 RX0 "numbers" "[I" ∈ lw_ws := ws_mem 69 (by decide +kernel) rfl
theorem wf_X1_13 : Cond.fieldLink RX1 13 RX1 "sum" "I" ∈ lw_ws := ws_mem 49 (by decide +kernel) rfl
theorem wf_X1_16 : Cond.fieldLink RX1 16 RX1 "squares" "I" ∈ lw_ws := ws_mem 51 (by decide +kernel) rfl
theorem wf_X1_19 : Cond.fieldLink RX1 19 RX1 "waits" "I" ∈ lw_ws := ws_mem 52 (by decide +kernel) rfl
theorem wf_X1_22 : Cond.fieldLink RX1 22 RX1 "longest" "I" ∈ lw_ws := ws_mem 53 (by decide +kernel) rfl
theorem wf_X1_7 : Cond.fieldLink RX1 7 RX1 "many" "I" ∈ lw_ws := ws_mem 46 (by decide +kernel) rfl
theorem wf_X2_13 : Cond.fieldLink RX2 13 RX2 "members" "I" ∈ lw_ws := ws_mem 113 (by decide +kernel) rfl
theorem wf_X2_16 : Cond.fieldLink RX2 16 RX2 "told" "I" ∈ lw_ws := ws_mem 116 (by decide +kernel) rfl
theorem wf_X2_19 : Cond.fieldLink RX2 19 RX2 "met" "I" ∈ lw_ws := ws_mem 118 (by decide +kernel) rfl
theorem wf_X2_7 : Cond.fieldLink RX2 7 RX2 "law" "I" ∈ lw_ws := ws_mem 110 (by decide +kernel) rfl
theorem wf_X3_107 : Cond.fieldLinkNest RX3 107 RX0 "passengers" "I" "RenewalClocks" ∈ nestW := List.mem_of_getElem? (i := 9) rfl
theorem wf_X3_11 : Cond.fieldLink RX3 11 RX3 "clocks" "[LRenewalClocks$Clock;" ∈ lw_ws := ws_mem 129 (by decide +kernel) rfl
theorem wf_X3_110 : Cond.fieldLinkNest RX3 110 RX0 "waited" "I" "RenewalClocks" ∈ nestW := List.mem_of_getElem? (i := 10) rfl
theorem wf_X3_113 : Cond.fieldLinkNest RX3 113 RX0 "rest" "I" "RenewalClocks" ∈ nestW := List.mem_of_getElem? (i := 8) rfl
theorem wf_X3_126 : Cond.fieldLinkNest RX3 126 RX2 "law" "I" "RenewalClocks" ∈ nestW := List.mem_of_getElem? (i := 15) rfl
theorem wf_X3_134 : Cond.fieldLinkNest RX3 134 RX2 "members" "I" "RenewalClocks" ∈ nestW := List.mem_of_getElem? (i := 17) rfl
theorem wf_X3_19 : Cond.fieldLink RX3 19 RX3 "groups" "[LRenewalClocks$Group;" ∈ lw_ws := ws_mem 132 (by decide +kernel) rfl
theorem wf_X3_23 : Cond.fieldLink RX3 23 RX3 "drawn" "I" ∈ lw_ws := ws_mem 137 (by decide +kernel) rfl
theorem wf_X3_29 : Cond.fieldLink RX3 29 RX3 "clockCount" "I" ∈ lw_ws := ws_mem 130 (by decide +kernel) rfl
theorem wf_X3_36 : Cond.fieldLink RX3 36 RX3 "groupCount" "I" ∈ lw_ws := ws_mem 133 (by decide +kernel) rfl
theorem wf_X3_42 : Cond.fieldLink RX3 42 RX3 "now" "I" ∈ lw_ws := ws_mem 135 (by decide +kernel) rfl
theorem wf_X3_62 : Cond.fieldLinkNest RX3 62 RX0 "wound" "I" "RenewalClocks" ∈ nestW := List.mem_of_getElem? (i := 11) rfl
theorem wf_X3_65 : Cond.fieldLinkNest RX3 65 RX0 "gap" "I" "RenewalClocks" ∈ nestW := List.mem_of_getElem? (i := 7) rfl
theorem wf_X3_68 : Cond.fieldLinkNest RX3 68 RX0 "law" "I" "RenewalClocks" ∈ nestW := List.mem_of_getElem? (i := 6) rfl
theorem wf_X3_71 : Cond.fieldLinkNest RX3 71 RX0 "round" "LRenewalClocks$Gaps;" "RenewalClocks" ∈ nestW := List.mem_of_getElem? (i := 12) rfl
theorem wf_X3_75 : Cond.fieldLinkNest RX3 75 RX1 "many" "I" "RenewalClocks" ∈ nestW := List.mem_of_getElem? (i := 3) rfl
theorem wf_X4_11 : Cond.fieldLink RX4 11 RX4 "slots" "[LRenewalClocks$Hall;" ∈ lw_ws := ws_mem 161 (by decide +kernel) rfl
theorem wf_X4_18 : Cond.fieldLink RX4 18 RX4 "kept" "I" ∈ lw_ws := ws_mem 162 (by decide +kernel) rfl
theorem wf_X5_15 : Cond.fieldLink RX5 15 RX5 "text" "LRenewalClocks$Text;" ∈ lw_ws := ws_mem 189 (by decide +kernel) rfl
theorem wf_X5_9 : Cond.fieldLink RX5 9 RX5 "numbers" "[I" ∈ lw_ws := ws_mem 190 (by decide +kernel) rfl
theorem wf_X6_9 : Cond.fieldLink RX6 9 RX6 "signs" "[C" ∈ lw_ws := ws_mem 175 (by decide +kernel) rfl
theorem wk_X7_77 : Cond.constant RX7 77 (-1000001) ∈ lw_ws := ws_mem 252 (by decide +kernel) rfl
theorem wk_X0_77 : Cond.constant RX0 77 (-1000004) ∈ lw_ws := ws_mem 238 (by decide +kernel) rfl
theorem wk_X3_130 : Cond.constant RX3 130 (-1000002) ∈ lw_ws := ws_mem 444 (by decide +kernel) rfl
theorem wk_X3_137 : Cond.constant RX3 137 (-1000004) ∈ lw_ws := ws_mem 247 (by decide +kernel) rfl
theorem wk_X3_49 : Cond.constant RX3 49 (-1000001) ∈ lw_ws := ws_mem 311 (by decide +kernel) rfl
theorem wk_X3_50 : Cond.constant RX3 50 (-1000003) ∈ lw_ws := ws_mem 312 (by decide +kernel) rfl
theorem wk_X3_92 : Cond.constant RX3 92 (99999) ∈ lw_ws := ws_mem 392 (by decide +kernel) rfl
theorem wk_L_33 : Cond.constant RL 33 (-1000003) ∈ lw_ws := ws_mem 353 (by decide +kernel) rfl
theorem wk_L_41 : Cond.constant RL 41 (-1000001) ∈ lw_ws := ws_mem 375 (by decide +kernel) rfl
theorem wk_L_45 : Cond.constant RL 45 (-1000002) ∈ lw_ws := ws_mem 460 (by decide +kernel) rfl
theorem wk_L_46 : Cond.constant RL 46 (10000000) ∈ lw_ws := ws_mem 264 (by decide +kernel) rfl
theorem wk_L_7 : Cond.constant RL 7 (40503) ∈ lw_ws := ws_mem 256 (by decide +kernel) rfl
theorem wk_L_70 : Cond.constant RL 70 (99999) ∈ lw_ws := ws_mem 464 (by decide +kernel) rfl
theorem wk_L_78 : Cond.constant RL 78 (-1000004) ∈ lw_ws := ws_mem 480 (by decide +kernel) rfl
theorem wk_L_8 : Cond.constant RL 8 (2147483647) ∈ lw_ws := ws_mem 260 (by decide +kernel) rfl
theorem wk_J6_265 : Cond.constant RJ6 265 (1431655765) ∈ lw_ws := ws_mem 408 (by decide +kernel) rfl
theorem wk_J6_266 : Cond.constant RJ6 266 (858993459) ∈ lw_ws := ws_mem 409 (by decide +kernel) rfl
theorem wk_J6_267 : Cond.constant RJ6 267 (252645135) ∈ lw_ws := ws_mem 410 (by decide +kernel) rfl
end
section
/-! ONE MEMORY: every cell of the class and of the check stands at a fixed place k < 228, its address is ad k; what it holds is M k : Nat → Int32 (references are fixed by the place, but the rows of the history). -/
abbrev Mem : Type := Nat → Nat → Int32
/-- the remainder as the machine makes it -/
def jrem (x y : Int32) : Int32 := x - x / y * y
def upd2 (M : Mem) (k j : Nat) (v : Int32) : Mem := fun a => if a = k then upd (M k) j v else M a
/-- class ids and slots; array classes; addresses; where the world begins -/
abbrev Gm : Type := va_G × (Nat → ClassId) × (Nat → Nat) × Nat
abbrev gD (g : Gm) : va_G := g.1
abbrev gC (g : Gm) : Nat → ClassId := g.2.1
abbrev ad (g : Gm) : Nat → Nat := g.2.2.1
abbrev gB (g : Gm) : Nat := g.2.2.2
abbrev gA (g : Gm) : Nat → Prop := fun q => gB g ≤ q
/-- kinds of places: 0..8 the classes as vwCl has them; 9..13 int arrays of 4, 5, 48, 42, 16; 14 the signs; 15 clocks, 16 groups, 17 slots -/
def hk0 (x : Nat) : Nat := if x = 0 then 3 else if x = 1 then 15 else if x = 2 then 16 else if x < 27 then (if (x - 3) % 4 = 0 then 0 else if (x - 3) % 4 = 1 then 9 else 1) else 2
def kd (k : Nat) : Nat := if k = 0 then 7 else if k < 63 then hk0 ((k - 1) % 31) else if k = 63 then 4 else if k = 64 then 17 else if k < 220 then hk0 ((k - 65) % 31) else
  if k = 220 then 6 else if k = 221 then 14 else if k = 222 then 5 else if k = 223 then 10 else if k = 224 then 9 else if k = 225 then 11 else if k = 226 then 12 else if k = 227 then 13 else 99
/-- what an object's fields are: none an int, some f the cell at place f k -/
def tpl (c : Nat) : List (Option (Nat → Nat)) := match c with
  | 0 => [none, some (fun k => k + 1), none, none, none, none, none, none, some (fun k => k + 2), some (fun k => k + 3)]
  | 1 => [none, none, none, none, none]
  | 2 => [none, none, none, none]
  | 3 => [some (fun k => k + 1), none, some (fun k => k + 2), none, none, none]
  | 4 => [some (fun k => k + 1), none]
  | 5 => [some (fun _ => 220), some (fun k => k + 1), none, none, none, none, none]
  | 6 => [some (fun k => k + 1), none]
  | 7 => [some (fun _ => 1), some (fun _ => 32), some (fun _ => 63), some (fun _ => 220), some (fun _ => 222)]
  | _ => [some (fun k => k + 1), some (fun k => k + 2), some (fun k => k + 3), some (fun k => k + 4), none, none, some (fun k => k + 5), none, none, none, none, none, none, none, some (fun k => k + 6)]
def rv (g : Gm) (M : Mem) (k j : Nat) (t : Option (Nat → Nat)) : Value := match t with
  | none => .int (M k j)
  | some f => .ref (ad g (f k))
def wF (g : Gm) (M : Mem) (k : Nat) : Nat → List (Option (Nat → Nat)) → List Value
  | _, [] => []
  | j, t :: ts => rv g M k j t :: wF g M k (j + 1) ts
/-- int arrays -/
def iarr (c : Nat) : Option Nat := match c with
  | 9 => some 4
  | 10 => some 5
  | 11 => some 48
  | 12 => some 42
  | 13 => some 16
  | _ => none
def wA (g : Gm) (M : Mem) (k c : Nat) : ClassId × vp_A :=
  if c = 14 then (gC g 1, 60, .inl (M k)) else if c = 15 then (gC g 2, 6, .inr (.inr (.inr (.inr (fun j => some (ad g (k + 2 + 4 * j)))))))
  else if c = 16 then (gC g 3, 4, .inr (.inr (.inr (.inr (fun j => some (ad g (k + 25 + j)))))))
  else if c = 17 then (gC g 4, 5, .inr (.inr (.inr (.inr (fun j => some (ad g (65 + 31 * (M k j).toNatClampNeg)))))))
  else (gC g 0, (iarr c).getD 0, .inl (M k))
def wE (g : Gm) (M : Mem) (k : Nat) : va_E := if kd k < 9 then .inr (kd k, wF g M k 0 (tpl (kd k))) else .inl (wA g M k (kd k))
def wTys (g : Gm) : List (ClassId × FieldType) := [(gC g 0, .int), (gC g 1, .char), (gC g 2, .object RX0), (gC g 3, .object RX2), (gC g 4, .object RX3)]
def wWs (g : Gm) (M : Mem) : va_W := (List.range 228).map (fun k => (ad g k, wE g M k))
/-- what of the world doesn't change: addresses apart, classes and array classes, links between nest mates -/
def wOK (g : Gm) (U : State) : Prop := (∀ i j, i < 228 → j < 228 → ad g i = ad g j → i = j) ∧ (∀ k, k < 228 → gB g ≤ ad g k) ∧ va_K (gD g) vwCl (wTys g) U ∧ ∀ w ∈ nestW, va_Nw w U
def hM (g : Gm) (M : Mem) (H : Heap) : Prop := va_P (gD g) vwCl (wWs g M) H
theorem wWs_at (g : Gm) (M : Mem) {k : Nat} (hk : k < 228) : (wWs g M)[k]? = some (ad g k, wE g M k) := by simp [wWs, hk]
theorem wWs_D {g : Gm} {U : State} (h : wOK g U) (M : Mem) : va_D (gA g) (wWs g M) := by
  have at' : ∀ {k : Nat} {q : Nat × va_E}, (wWs g M)[k]? = some q → k < 228 ∧ q.1 = ad g k := by
    intro k q hq
    have hk : k < 228 := by
      have := (List.getElem?_eq_some_iff.mp hq).1
      simpa [wWs] using this
    rw [wWs_at g M hk] at hq
    exact ⟨hk, by rw [← Option.some.inj hq]⟩
  refine ⟨fun i j p q hi hj hpq => ?_, fun k q hq => ?_⟩
  · obtain ⟨a1, a2⟩ := at' hi
    obtain ⟨b1, b2⟩ := at' hj
    exact h.1 i j a1 b1 (by rw [← a2, ← b2]; exact hpq)
  · obtain ⟨a1, a2⟩ := at' hq
    show gB g ≤ q.1
    rw [a2]; exact h.2.1 k a1
theorem wWs_set (g : Gm) {M M' : Mem} {k : Nat} (hk : k < 228) {e : va_E} (h1 : wE g M' k = e) (h2 : ∀ j, j ≠ k → wE g M' j = wE g M j) : (wWs g M).set k (ad g k, e) = wWs g M' := by
  apply List.ext_getElem?
  intro i
  by_cases hi : i < 228
  · by_cases hik : i = k
    · subst hik
      rw [wWs_at g M' hi, List.getElem?_set_self (by simp [wWs]; exact hi), h1]
    · rw [List.getElem?_set_ne (fun h => hik h.symm), wWs_at g M hi, wWs_at g M' hi, h2 i hik]
  · rw [List.getElem?_eq_none (by simp [wWs]; omega), List.getElem?_eq_none (by simp [wWs]; omega)]
theorem wE_row (g : Gm) {M M' : Mem} {k : Nat} (h : M' k = M k) : wE g M' k = wE g M k := by
  have h1 : ∀ (ts : List (Option (Nat → Nat))) (j : Nat), wF g M' k j ts = wF g M k j ts := by
    intro ts
    induction ts with
    | nil => intro j; rfl
    | cons t ts ih =>
      intro j
      show rv g M' k j t :: _ = rv g M k j t :: _
      rw [ih]
      cases t <;> simp [rv, h]
  unfold wE wA
  rw [h1, h]
theorem upd2_ne (M : Mem) {k a : Nat} (j : Nat) (v : Int32) (h : a ≠ k) : upd2 M k j v a = M a := by simp [upd2, h]
theorem upd2_row (M : Mem) (k j : Nat) (v : Int32) : upd2 M k j v k = upd (M k) j v := by simp [upd2]
theorem kd_lt {k c : Nat} (h : kd k = c) (hc : c < 99) : k < 228 := by
  rcases Nat.lt_or_ge k 228 with q | q
  · exact q
  · exfalso
    have : kd k = 99 := by
      unfold kd
      rw [if_neg (by omega), if_neg (by omega), if_neg (by omega), if_neg (by omega), if_neg (by omega), if_neg (by omega), if_neg (by omega), if_neg (by omega), if_neg (by omega), if_neg (by omega), if_neg (by omega), if_neg (by omega), if_neg (by omega)]
    omega
theorem wF_at (g : Gm) (M : Mem) (k : Nat) : ∀ (ts : List (Option (Nat → Nat))) (j0 j : Nat) {t : Option (Nat → Nat)}, ts[j]? = some t → (wF g M k j0 ts)[j]? = some (rv g M k (j0 + j) t) := by
  intro ts
  induction ts with
  | nil => intro j0 j t h; simp at h
  | cons a ts ih =>
    intro j0 j t h
    cases j with
    | zero =>
      simp at h
      subst h
      simp [wF]
    | succ j =>
      simp at h
      have := ih (j0 + 1) j h
      simp only [wF, List.getElem?_cons_succ]
      rw [this]
      congr 2
      omega
theorem wF_len (g : Gm) (M : Mem) (k : Nat) : ∀ (ts : List (Option (Nat → Nat))) (j0 : Nat), (wF g M k j0 ts).length = ts.length := by
  intro ts
  induction ts with
  | nil => intro j0; rfl
  | cons a ts ih => intro j0; simp [wF, ih]
theorem wF_set (g : Gm) (M : Mem) (k j : Nat) (x : Int32) : ∀ (ts : List (Option (Nat → Nat))) (j0 i : Nat), j0 + i = j → ts[i]? = some none → (wF g M k j0 ts).set i (.int x) = wF g (upd2 M k j x) k j0 ts := by
  have off : ∀ (ts : List (Option (Nat → Nat))) (j0 : Nat), j < j0 → wF g (upd2 M k j x) k j0 ts = wF g M k j0 ts := by
    intro ts
    induction ts with
    | nil => intro j0 _; rfl
    | cons t ts ih =>
      intro j0 hj
      simp only [wF]
      rw [ih (j0 + 1) (by omega)]
      congr 1
      cases t with
      | none => simp only [rv]; rw [upd2_row]; unfold upd; rw [if_neg (by omega)]
      | some f => rfl
  intro ts
  induction ts with
  | nil => intro j0 i _ h; simp at h
  | cons t ts ih =>
    intro j0 i hij h
    cases i with
    | zero =>
      simp at h
      subst h
      simp only [wF, List.set_cons_zero]
      rw [off ts (j0 + 1) (by omega)]
      congr 1
      simp only [rv]
      rw [upd2_row]
      unfold upd
      rw [if_pos (by omega)]
    | succ i =>
      simp at h
      simp only [wF, List.set_cons_succ]
      rw [ih (j0 + 1) i (by omega) h]
      congr 1
      cases t with
      | none => simp only [rv]; rw [upd2_row]; unfold upd; rw [if_neg (by omega)]
      | some f => rfl
theorem wE_obj (g : Gm) (M : Mem) {k c : Nat} (h : kd k = c) (hc : c < 9) : wE g M k = .inr (c, wF g M k 0 (tpl c)) := by
  unfold wE
  rw [h, if_pos hc]
theorem wE_arr (g : Gm) (M : Mem) {k c : Nat} (h : kd k = c) (hc : ¬ c < 9) : wE g M k = .inl (wA g M k c) := by
  unfold wE
  rw [h, if_neg hc]
theorem wE_iarr (g : Gm) (M : Mem) {k c n : Nat} (h : kd k = c) (hn : iarr c = some n) : wE g M k = .inl (gC g 0, n, .inl (M k)) := by
  have hc : c = 9 ∨ c = 10 ∨ c = 11 ∨ c = 12 ∨ c = 13 := by
    unfold iarr at hn
    split at hn <;> simp_all
  rw [wE_arr g M h (by omega)]
  unfold wA
  rw [if_neg (by omega), if_neg (by omega), if_neg (by omega), if_neg (by omega), hn]
  rfl
/-! locals, dense: at i what is known of slot i -/
def lg : List (Option Value) → Nat → Option Value
  | [], _ => none
  | a :: _, 0 => a
  | _ :: l, n + 1 => lg l n
def lst : List (Option Value) → Nat → Option Value → List (Option Value)
  | [], _, _ => []
  | _ :: l, 0, v => v :: l
  | a :: l, n + 1, v => a :: lst l n v
def lhas (ls : Array Slot) (nL : Nat) (lv : List (Option Value)) : Prop := ls.size = nL ∧ lv_wf ls ∧ ∀ i v, lg lv i = some v → ls[i]? = some (.val v)
def lok (lv : List (Option Value)) (i : Nat) : Bool := match i with
  | 0 => true
  | i + 1 => match lg lv i with
    | some w => !(w.category == 2)
    | none => true
/-- less is known -/
def lsub : List (Option Value) → List (Option Value) → Prop
  | _, [] => True
  | [], none :: r => lsub [] r
  | [], some _ :: _ => False
  | _ :: l, none :: r => lsub l r
  | a :: l, some v :: r => a = some v ∧ lsub l r
theorem lg_lst : ∀ (lv : List (Option Value)) (i j : Nat) (v : Option Value), lg (lst lv i v) j = if j = i ∧ i < lv.length then v else lg lv j := by
  intro lv
  induction lv with
  | nil => intro i j v; simp [lst, lg]
  | cons a l ih =>
    intro i j v
    cases i with
    | zero => cases j <;> simp [lst, lg]
    | succ i =>
      cases j with
      | zero => simp [lst, lg]
      | succ j => simp only [lst, lg, ih]; simp
theorem lg_lt : ∀ (lv : List (Option Value)) (i : Nat) {v : Value}, lg lv i = some v → i < lv.length := by
  intro lv
  induction lv with
  | nil => intro i v h; simp [lg] at h
  | cons a l ih =>
    intro i v h
    cases i with
    | zero => simp
    | succ i => have := ih i h; simp; omega
theorem lsub_sound : ∀ (lv r : List (Option Value)), lsub lv r → ∀ i v, lg r i = some v → lg lv i = some v := by
  intro lv
  induction lv with
  | nil =>
    intro r
    induction r with
    | nil => intro _ i v h; simp [lg] at h
    | cons b r ih =>
      intro h i v hi
      cases b with
      | none =>
        cases i with
        | zero => simp [lg] at hi
        | succ i => have := ih h i v hi; simp [lg] at this
      | some w => exact h.elim
  | cons a l ih =>
    intro r h i v hi
    cases r with
    | nil => simp [lg] at hi
    | cons b r =>
      cases b with
      | none =>
        cases i with
        | zero => simp [lg] at hi
        | succ i => exact ih r h i v hi
      | some w =>
        cases i with
        | zero => simp only [lg] at hi ⊢; rw [h.1]; exact hi
        | succ i => exact ih r h.2 i v hi
def lasc (lv : List (Option Value)) : List (Nat × Value) := (List.range lv.length).filterMap (fun i => (lg lv i).map (fun v => (i, v)))
theorem lasc_mem (lv : List (Option Value)) (q : Nat × Value) : q ∈ lasc lv ↔ lg lv q.1 = some q.2 := by
  obtain ⟨i, v⟩ := q
  simp only [lasc, List.mem_filterMap, List.mem_range, Option.map_eq_some_iff, Prod.mk.injEq]
  constructor
  · rintro ⟨a, h1, b, h2, rfl, rfl⟩; exact h2
  · intro h; exact ⟨i, lg_lt lv i h, v, h, rfl, rfl⟩
theorem lhas.asc {ls : Array Slot} {nL : Nat} {lv : List (Option Value)} (h : lhas ls nL lv) : lv_has ls nL (lasc lv) := ⟨h.1, h.2.1, fun q hq => h.2.2 _ _ ((lasc_mem lv q).mp hq)⟩
theorem lhas.of {ls : Array Slot} {nL : Nat} {l : List (Nat × Value)} {lv : List (Option Value)} (h : lv_has ls nL l) (hl : ∀ i v, lg lv i = some v → (i, v) ∈ l) : lhas ls nL lv := ⟨h.1, h.2.1, fun i v hi => h.2.2 (i, v) (hl i v hi)⟩
theorem lhas.sub {ls : Array Slot} {nL : Nat} {lv r : List (Option Value)} (h : lhas ls nL lv) (hs : lsub lv r) : lhas ls nL r := ⟨h.1, h.2.1, fun i v hi => h.2.2 i v (lsub_sound lv r hs i v hi)⟩
theorem lhas.set1 {ls : Array Slot} {nL : Nat} {lv : List (Option Value)} {i : Nat} {v : Value} (ho : lok lv i = true) (h : lv_has ls nL ((i, v) :: (lasc lv).filter (fun q => !(q.1 == i) && !(q.1 + 1 == i && q.2.category == 2)))) : lhas ls nL (lst lv i (some v)) := by
  refine lhas.of h (fun j w hj => ?_)
  rw [lg_lst] at hj
  by_cases hc : j = i ∧ i < lv.length
  · rw [if_pos hc] at hj
    cases hj
    rw [hc.1]
    exact List.mem_cons_self
  · rw [if_neg hc] at hj
    have hji : ¬ j = i := fun e => hc ⟨e, e ▸ lg_lt lv j hj⟩
    refine List.mem_cons_of_mem _ (List.mem_filter.mpr ⟨(lasc_mem lv (j, w)).mpr hj, ?_⟩)
    have h2 : ¬ (j + 1 = i ∧ w.category = 2) := by
      rintro ⟨e, hw⟩
      subst e
      simp [lok, hj, hw] at ho
    simp only [Bool.and_eq_true, Bool.not_eq_true', beq_eq_false_iff_ne, ne_eq, Bool.and_eq_false_iff]
    refine ⟨hji, ?_⟩
    by_cases hx : j + 1 = i
    · exact Or.inr (fun e => h2 ⟨hx, e⟩)
    · exact Or.inl hx
theorem lhas.set2 {ls : Array Slot} {nL : Nat} {lv : List (Option Value)} {i : Nat} {v : Value} (ho : lok lv i = true) (h : lv_has ls nL ((i, v) :: (lasc lv).filter (fun q => !(q.1 == i) && (!(q.1 == i + 1) && !(q.1 + 1 == i && q.2.category == 2))))) : lhas ls nL (lst (lst lv i (some v)) (i + 1) none) := by
  refine lhas.of h (fun j w hj => ?_)
  rw [lg_lst] at hj
  split at hj
  · cases hj
  · rename_i hj1
    rw [lg_lst] at hj
    have hlen : (lst lv i (some v)).length = lv.length := by
      have : ∀ (l : List (Option Value)) (i : Nat), (lst l i (some v)).length = l.length := by
        intro l
        induction l with
        | nil => intro i; rfl
        | cons a l ih => intro i; cases i <;> simp [lst, ih]
      exact this lv i
    rw [hlen] at hj1
    by_cases hc : j = i ∧ i < lv.length
    · rw [if_pos hc] at hj
      cases hj
      rw [hc.1]
      exact List.mem_cons_self
    · rw [if_neg hc] at hj
      have hlt := lg_lt lv j hj
      have hji : ¬ j = i := fun e => hc ⟨e, e ▸ hlt⟩
      have hji1 : ¬ j = i + 1 := fun e => hj1 ⟨e, e ▸ hlt⟩
      refine List.mem_cons_of_mem _ (List.mem_filter.mpr ⟨(lasc_mem lv (j, w)).mpr hj, ?_⟩)
      have h2 : ¬ (j + 1 = i ∧ w.category = 2) := by
        rintro ⟨e, hw⟩
        subst e
        simp [lok, hj, hw] at ho
      simp only [Bool.and_eq_true, Bool.not_eq_true', beq_eq_false_iff_ne, ne_eq, Bool.and_eq_false_iff]
      refine ⟨hji, hji1, ?_⟩
      by_cases hx : j + 1 = i
      · exact Or.inr (fun e => h2 ⟨hx, e⟩)
      · exact Or.inl hx
/-! the frame of a walk, and the judgement -/
abbrev XT : Type := Program × Launch × Env × Room × State × MethodId × Array Value × List Frame × Method × Code × Nat × Nat × (State → Prop)
def FX (X : XT) (g : Gm) (cc : ByteArray) (nL : Nat) (own : String) (rf rl : Nat) : Prop := match X with
  | (p, _, _, R, s, m, args, _, _, c, cells, slots, _) => CallFix p m c cc nL s args lw_ws own ∧ wOK g s ∧ R.frames = rf ∧ R.locals = rl ∧ cells ≤ R.cells ∧ slots ≤ R.slots ∧ gB g ≤ s.heap.size
def G (X : XT) (g : Gm) (nL : Nat) (M : Mem) (pc : Nat) (lv : List (Option Value)) (st : List Value) : Prop := match X with
  | (p, l, e, R, s, m, args, below, meth, c, cells, slots, Q) => ∀ (H : Heap) (locs : List Loc) (ls : Array Slot), hM g M H → va_S (gA g) s.heap H locs → lhas ls nL lv → W p l e R s m args below meth c H locs cells slots Q (F0 m pc ls st)
section GROWS
variable {X : XT} {g : Gm} {cc : ByteArray} {nL : Nat} {own : String} {rf rl : Nat} {M : Mem} {pc : Nat} {lv : List (Option Value)} {st : List Value}
theorem G.sub (r : List (Option Value)) (hs : lsub lv r) (k : G X g nL M pc r st) : G X g nL M pc lv st := by
  obtain ⟨p, l, e, R, s, m, args, below, meth, c, cells, slots, Q⟩ := X
  intro H locs ls hP hS hL
  exact k H locs ls hP hS (hL.sub hs)
theorem G.eq {pc' : Nat} (h : pc' = pc) (k : G X g nL M pc lv st) : G X g nL M pc' lv st := h ▸ k
theorem G.mem {M' : Mem} (h : M = M') (k : G X g nL M' pc lv st) : G X g nL M pc lv st := h ▸ k

theorem g_iconst (F : FX X g cc nL own rf rl) {n : Int} {v : Int32} (hd : decode cc pc = .ok (.iconst n, 1)) (hv : Int32.ofInt n = v) (k : G X g nL M (pc + 1) lv (.int v :: st)) : G X g nL M pc lv st := by
  obtain ⟨p, l, e, R, s, m, args, below, meth, c, cells, slots, Q⟩ := X
  obtain ⟨⟨hx, hb, hml, hown, hts⟩, hW, hrf, hrl, hcl, hsl, hgb⟩ := F
  intro H locs ls hP hS hL
  exact lv_iconst hx hb hd hv (k H locs ls hP hS hL)
theorem g_bipush (F : FX X g cc nL own rf rl) {n : Int} {v : Int32} (hd : decode cc pc = .ok (.bipush n, 2)) (hv : (Int8.ofInt n).toInt32 = v) (k : G X g nL M (pc + 2) lv (.int v :: st)) : G X g nL M pc lv st := by
  obtain ⟨p, l, e, R, s, m, args, below, meth, c, cells, slots, Q⟩ := X
  obtain ⟨⟨hx, hb, hml, hown, hts⟩, hW, hrf, hrl, hcl, hsl, hgb⟩ := F
  intro H locs ls hP hS hL
  exact lv_bipush hx hb hd hv (k H locs ls hP hS hL)
theorem g_sipush (F : FX X g cc nL own rf rl) {n : Int} {v : Int32} (hd : decode cc pc = .ok (.sipush n, 3)) (hv : (Int16.ofInt n).toInt32 = v) (k : G X g nL M (pc + 3) lv (.int v :: st)) : G X g nL M pc lv st := by
  obtain ⟨p, l, e, R, s, m, args, below, meth, c, cells, slots, Q⟩ := X
  obtain ⟨⟨hx, hb, hml, hown, hts⟩, hW, hrf, hrl, hcl, hsl, hgb⟩ := F
  intro H locs ls hP hS hL
  exact lv_sipush hx hb hd hv (k H locs ls hP hS hL)
theorem g_lconst (F : FX X g cc nL own rf rl) {n : Fin 2} {v : Int64} (hd : decode cc pc = .ok (.lconst n, 1)) (hv : Int64.ofNat (n : Nat) = v) (k : G X g nL M (pc + 1) lv (.long v :: st)) : G X g nL M pc lv st := by
  obtain ⟨p, l, e, R, s, m, args, below, meth, c, cells, slots, Q⟩ := X
  obtain ⟨⟨hx, hb, hml, hown, hts⟩, hW, hrf, hrl, hcl, hsl, hgb⟩ := F
  intro H locs ls hP hS hL
  exact lv_lconst hx hb hd hv (k H locs ls hP hS hL)
theorem g_dconst0 (F : FX X g cc nL own rf rl) (hd : decode cc pc = .ok (.dconst 0, 1)) (k : G X g nL M (pc + 1) lv (.double FP.dconst0 :: st)) : G X g nL M pc lv st := by
  obtain ⟨p, l, e, R, s, m, args, below, meth, c, cells, slots, Q⟩ := X
  obtain ⟨⟨hx, hb, hml, hown, hts⟩, hW, hrf, hrl, hcl, hsl, hgb⟩ := F
  intro H locs ls hP hS hL
  exact lv_dconst0 hx hb hd (k H locs ls hP hS hL)
theorem g_dconst1 (F : FX X g cc nL own rf rl) (hd : decode cc pc = .ok (.dconst 1, 1)) (k : G X g nL M (pc + 1) lv (.double FP.dconst1 :: st)) : G X g nL M pc lv st := by
  obtain ⟨p, l, e, R, s, m, args, below, meth, c, cells, slots, Q⟩ := X
  obtain ⟨⟨hx, hb, hml, hown, hts⟩, hW, hrf, hrl, hcl, hsl, hgb⟩ := F
  intro H locs ls hP hS hL
  exact lv_dconst1 hx hb hd (k H locs ls hP hS hL)
theorem g_ldc (F : FX X g cc nL own rf rl) {i : Nat} {v : Int32} (hw : Cond.constant own i v ∈ lw_ws) (hd : decode cc pc = .ok (.ldc i, 2)) (k : G X g nL M (pc + 2) lv (.int v :: st)) : G X g nL M pc lv st := by
  obtain ⟨p, l, e, R, s, m, args, below, meth, c, cells, slots, Q⟩ := X
  obtain ⟨⟨hx, hb, hml, hown, hts⟩, hW, hrf, hrl, hcl, hsl, hgb⟩ := F
  intro H locs ls hP hS hL
  exact lv_ldc hx hb hown (hts _ hw) hd (k H locs ls hP hS hL)
theorem g_ldcw (F : FX X g cc nL own rf rl) {i : Nat} {v : Int32} (hw : Cond.constant own i v ∈ lw_ws) (hd : decode cc pc = .ok (.ldc_w i, 3)) (k : G X g nL M (pc + 3) lv (.int v :: st)) : G X g nL M pc lv st := by
  obtain ⟨p, l, e, R, s, m, args, below, meth, c, cells, slots, Q⟩ := X
  obtain ⟨⟨hx, hb, hml, hown, hts⟩, hW, hrf, hrl, hcl, hsl, hgb⟩ := F
  intro H locs ls hP hS hL
  exact lv_ldcw hx hb hown (hts _ hw) hd (k H locs ls hP hS hL)
theorem g_ldc2 (F : FX X g cc nL own rf rl) {i : Nat} {v : Int64} (hw : Cond.constantLong own i v ∈ lw_ws) (hd : decode cc pc = .ok (.ldc2_w i, 3)) (k : G X g nL M (pc + 3) lv (.long v :: st)) : G X g nL M pc lv st := by
  obtain ⟨p, l, e, R, s, m, args, below, meth, c, cells, slots, Q⟩ := X
  obtain ⟨⟨hx, hb, hml, hown, hts⟩, hW, hrf, hrl, hcl, hsl, hgb⟩ := F
  intro H locs ls hP hS hL
  exact lv_ldc2 hx hb hown (hts _ hw) hd (k H locs ls hP hS hL)
theorem g_ldc2d (F : FX X g cc nL own rf rl) {i : Nat} {v : UInt64} (hw : Cond.constantDouble own i v ∈ lw_ws) (hd : decode cc pc = .ok (.ldc2_w i, 3)) (k : G X g nL M (pc + 3) lv (.double v :: st)) : G X g nL M pc lv st := by
  obtain ⟨p, l, e, R, s, m, args, below, meth, c, cells, slots, Q⟩ := X
  obtain ⟨⟨hx, hb, hml, hown, hts⟩, hW, hrf, hrl, hcl, hsl, hgb⟩ := F
  intro H locs ls hP hS hL
  exact lv_ldc2d hx hb hown (hts _ hw) hd (k H locs ls hP hS hL)
theorem g_null (F : FX X g cc nL own rf rl) (hd : decode cc pc = .ok (.aconst_null, 1)) (k : G X g nL M (pc + 1) lv (.null :: st)) : G X g nL M pc lv st := by
  obtain ⟨p, l, e, R, s, m, args, below, meth, c, cells, slots, Q⟩ := X
  obtain ⟨⟨hx, hb, hml, hown, hts⟩, hW, hrf, hrl, hcl, hsl, hgb⟩ := F
  intro H locs ls hP hS hL
  exact lv_null hx hb hd (k H locs ls hP hS hL)
theorem g_iload_n (F : FX X g cc nL own rf rl) {i : Fin 4} {x : Int32} (hd : decode cc pc = .ok (.iload_n i, 1)) (hl : lg lv (i : Nat) = some (.int x)) (k : G X g nL M (pc + 1) lv (.int x :: st)) : G X g nL M pc lv st := by
  obtain ⟨p, l, e, R, s, m, args, below, meth, c, cells, slots, Q⟩ := X
  obtain ⟨⟨hx, hb, hml, hown, hts⟩, hW, hrf, hrl, hcl, hsl, hgb⟩ := F
  intro H locs ls hP hS hL
  exact lv_iload_n hx hb hd rfl (hL.2.2 _ _ hl) (k H locs ls hP hS hL)
theorem g_iload (F : FX X g cc nL own rf rl) {i : Nat} {x : Int32} (hd : decode cc pc = .ok (.iload i, 2)) (hl : lg lv i = some (.int x)) (k : G X g nL M (pc + 2) lv (.int x :: st)) : G X g nL M pc lv st := by
  obtain ⟨p, l, e, R, s, m, args, below, meth, c, cells, slots, Q⟩ := X
  obtain ⟨⟨hx, hb, hml, hown, hts⟩, hW, hrf, hrl, hcl, hsl, hgb⟩ := F
  intro H locs ls hP hS hL
  exact lv_iload hx hb hd (hL.2.2 _ _ hl) (k H locs ls hP hS hL)
theorem g_lload (F : FX X g cc nL own rf rl) {i : Nat} {x : Int64} (hd : decode cc pc = .ok (.lload i, 2)) (hl : lg lv i = some (.long x)) (k : G X g nL M (pc + 2) lv (.long x :: st)) : G X g nL M pc lv st := by
  obtain ⟨p, l, e, R, s, m, args, below, meth, c, cells, slots, Q⟩ := X
  obtain ⟨⟨hx, hb, hml, hown, hts⟩, hW, hrf, hrl, hcl, hsl, hgb⟩ := F
  intro H locs ls hP hS hL
  exact lv_lload hx hb hd (hL.2.2 _ _ hl) (k H locs ls hP hS hL)
theorem g_dload_n (F : FX X g cc nL own rf rl) {i : Fin 4} {x : UInt64} (hd : decode cc pc = .ok (.dload_n i, 1)) (hl : lg lv (i : Nat) = some (.double x)) (k : G X g nL M (pc + 1) lv (.double x :: st)) : G X g nL M pc lv st := by
  obtain ⟨p, l, e, R, s, m, args, below, meth, c, cells, slots, Q⟩ := X
  obtain ⟨⟨hx, hb, hml, hown, hts⟩, hW, hrf, hrl, hcl, hsl, hgb⟩ := F
  intro H locs ls hP hS hL
  exact lv_dload_n hx hb hd rfl (hL.2.2 _ _ hl) (k H locs ls hP hS hL)
theorem g_aload_n (F : FX X g cc nL own rf rl) {i : Fin 4} {x : Nat} (hd : decode cc pc = .ok (.aload_n i, 1)) (hl : lg lv (i : Nat) = some (.ref x)) (k : G X g nL M (pc + 1) lv (.ref x :: st)) : G X g nL M pc lv st := by
  obtain ⟨p, l, e, R, s, m, args, below, meth, c, cells, slots, Q⟩ := X
  obtain ⟨⟨hx, hb, hml, hown, hts⟩, hW, hrf, hrl, hcl, hsl, hgb⟩ := F
  intro H locs ls hP hS hL
  exact lv_aload_n hx hb hd rfl (hL.2.2 _ _ hl) (k H locs ls hP hS hL)
theorem g_aload (F : FX X g cc nL own rf rl) {i : Nat} {x : Nat} (hd : decode cc pc = .ok (.aload i, 2)) (hl : lg lv i = some (.ref x)) (k : G X g nL M (pc + 2) lv (.ref x :: st)) : G X g nL M pc lv st := by
  obtain ⟨p, l, e, R, s, m, args, below, meth, c, cells, slots, Q⟩ := X
  obtain ⟨⟨hx, hb, hml, hown, hts⟩, hW, hrf, hrl, hcl, hsl, hgb⟩ := F
  intro H locs ls hP hS hL
  exact lv_aload hx hb hd (hL.2.2 _ _ hl) (k H locs ls hP hS hL)
theorem g_aload_nN (F : FX X g cc nL own rf rl) {i : Fin 4} (hd : decode cc pc = .ok (.aload_n i, 1)) (hl : lg lv (i : Nat) = some .null) (k : G X g nL M (pc + 1) lv (.null :: st)) : G X g nL M pc lv st := by
  obtain ⟨p, l, e, R, s, m, args, below, meth, c, cells, slots, Q⟩ := X
  obtain ⟨⟨hx, hb, hml, hown, hts⟩, hW, hrf, hrl, hcl, hsl, hgb⟩ := F
  intro H locs ls hP hS hL
  exact lv_aload_nN hx hb hd rfl (hL.2.2 _ _ hl) (k H locs ls hP hS hL)
theorem g_aloadN (F : FX X g cc nL own rf rl) {i : Nat} (hd : decode cc pc = .ok (.aload i, 2)) (hl : lg lv i = some .null) (k : G X g nL M (pc + 2) lv (.null :: st)) : G X g nL M pc lv st := by
  obtain ⟨p, l, e, R, s, m, args, below, meth, c, cells, slots, Q⟩ := X
  obtain ⟨⟨hx, hb, hml, hown, hts⟩, hW, hrf, hrl, hcl, hsl, hgb⟩ := F
  intro H locs ls hP hS hL
  exact lv_aloadN hx hb hd (hL.2.2 _ _ hl) (k H locs ls hP hS hL)
theorem g_istore_n (F : FX X g cc nL own rf rl) {i : Fin 4} {x : Int32} (hd : decode cc pc = .ok (.istore_n i, 1)) (hn : (i : Nat) < nL) (ho : lok lv (i : Nat) = true) (k : G X g nL M (pc + 1) (lst lv (i : Nat) (some (.int x))) st) : G X g nL M pc lv (.int x :: st) := by
  obtain ⟨p, l, e, R, s, m, args, below, meth, c, cells, slots, Q⟩ := X
  obtain ⟨⟨hx, hb, hml, hown, hts⟩, hW, hrf, hrl, hcl, hsl, hgb⟩ := F
  intro H locs ls hP hS hL
  exact lv_istore_n hx hb hd rfl hL.asc hn rfl (fun ls h => k H locs ls hP hS (lhas.set1 ho h))
theorem g_istore (F : FX X g cc nL own rf rl) {i : Nat} {x : Int32} (hd : decode cc pc = .ok (.istore i, 2)) (hn : i < nL) (ho : lok lv i = true) (k : G X g nL M (pc + 2) (lst lv i (some (.int x))) st) : G X g nL M pc lv (.int x :: st) := by
  obtain ⟨p, l, e, R, s, m, args, below, meth, c, cells, slots, Q⟩ := X
  obtain ⟨⟨hx, hb, hml, hown, hts⟩, hW, hrf, hrl, hcl, hsl, hgb⟩ := F
  intro H locs ls hP hS hL
  exact lv_istore hx hb hd hL.asc hn rfl (fun ls h => k H locs ls hP hS (lhas.set1 ho h))
theorem g_astore_n (F : FX X g cc nL own rf rl) {i : Fin 4} {x : Nat} (hd : decode cc pc = .ok (.astore_n i, 1)) (hn : (i : Nat) < nL) (ho : lok lv (i : Nat) = true) (k : G X g nL M (pc + 1) (lst lv (i : Nat) (some (.ref x))) st) : G X g nL M pc lv (.ref x :: st) := by
  obtain ⟨p, l, e, R, s, m, args, below, meth, c, cells, slots, Q⟩ := X
  obtain ⟨⟨hx, hb, hml, hown, hts⟩, hW, hrf, hrl, hcl, hsl, hgb⟩ := F
  intro H locs ls hP hS hL
  exact lv_astore_n hx hb hd rfl hL.asc hn rfl (fun ls h => k H locs ls hP hS (lhas.set1 ho h))
theorem g_astore (F : FX X g cc nL own rf rl) {i : Nat} {x : Nat} (hd : decode cc pc = .ok (.astore i, 2)) (hn : i < nL) (ho : lok lv i = true) (k : G X g nL M (pc + 2) (lst lv i (some (.ref x))) st) : G X g nL M pc lv (.ref x :: st) := by
  obtain ⟨p, l, e, R, s, m, args, below, meth, c, cells, slots, Q⟩ := X
  obtain ⟨⟨hx, hb, hml, hown, hts⟩, hW, hrf, hrl, hcl, hsl, hgb⟩ := F
  intro H locs ls hP hS hL
  exact lv_astore hx hb hd hL.asc hn rfl (fun ls h => k H locs ls hP hS (lhas.set1 ho h))
theorem g_lstore (F : FX X g cc nL own rf rl) {i : Nat} {x : Int64} (hd : decode cc pc = .ok (.lstore i, 2)) (hn : i + 1 < nL) (ho : lok lv i = true) (k : G X g nL M (pc + 2) (lst (lst lv i (some (.long x))) (i + 1) none) st) : G X g nL M pc lv (.long x :: st) := by
  obtain ⟨p, l, e, R, s, m, args, below, meth, c, cells, slots, Q⟩ := X
  obtain ⟨⟨hx, hb, hml, hown, hts⟩, hW, hrf, hrl, hcl, hsl, hgb⟩ := F
  intro H locs ls hP hS hL
  exact lv_lstore hx hb hd hL.asc hn rfl (fun ls h => k H locs ls hP hS (lhas.set2 ho h))
theorem g_dstore_n (F : FX X g cc nL own rf rl) {i : Fin 4} {x : UInt64} (hd : decode cc pc = .ok (.dstore_n i, 1)) (hn : (i : Nat) + 1 < nL) (ho : lok lv (i : Nat) = true) (k : G X g nL M (pc + 1) (lst (lst lv (i : Nat) (some (.double x))) ((i : Nat) + 1) none) st) : G X g nL M pc lv (.double x :: st) := by
  obtain ⟨p, l, e, R, s, m, args, below, meth, c, cells, slots, Q⟩ := X
  obtain ⟨⟨hx, hb, hml, hown, hts⟩, hW, hrf, hrl, hcl, hsl, hgb⟩ := F
  intro H locs ls hP hS hL
  exact lv_dstore_n hx hb hd rfl hL.asc hn rfl (fun ls h => k H locs ls hP hS (lhas.set2 ho h))
theorem g_dstore (F : FX X g cc nL own rf rl) {i : Nat} {x : UInt64} (hd : decode cc pc = .ok (.dstore i, 2)) (hn : i + 1 < nL) (ho : lok lv i = true) (k : G X g nL M (pc + 2) (lst (lst lv i (some (.double x))) (i + 1) none) st) : G X g nL M pc lv (.double x :: st) := by
  obtain ⟨p, l, e, R, s, m, args, below, meth, c, cells, slots, Q⟩ := X
  obtain ⟨⟨hx, hb, hml, hown, hts⟩, hW, hrf, hrl, hcl, hsl, hgb⟩ := F
  intro H locs ls hP hS hL
  exact lv_dstore hx hb hd hL.asc hn rfl (fun ls h => k H locs ls hP hS (lhas.set2 ho h))
theorem g_astore_nN (F : FX X g cc nL own rf rl) {i : Fin 4} (hd : decode cc pc = .ok (.astore_n i, 1)) (hn : (i : Nat) < nL) (ho : lok lv (i : Nat) = true) (k : G X g nL M (pc + 1) (lst lv (i : Nat) (some .null)) st) : G X g nL M pc lv (.null :: st) := by
  obtain ⟨p, l, e, R, s, m, args, below, meth, c, cells, slots, Q⟩ := X
  obtain ⟨⟨hx, hb, hml, hown, hts⟩, hW, hrf, hrl, hcl, hsl, hgb⟩ := F
  intro H locs ls hP hS hL
  exact lv_astore_nN hx hb hd rfl hL.asc hn rfl (fun ls h => k H locs ls hP hS (lhas.set1 ho h))
theorem g_astoreN (F : FX X g cc nL own rf rl) {i : Nat} (hd : decode cc pc = .ok (.astore i, 2)) (hn : i < nL) (ho : lok lv i = true) (k : G X g nL M (pc + 2) (lst lv i (some .null)) st) : G X g nL M pc lv (.null :: st) := by
  obtain ⟨p, l, e, R, s, m, args, below, meth, c, cells, slots, Q⟩ := X
  obtain ⟨⟨hx, hb, hml, hown, hts⟩, hW, hrf, hrl, hcl, hsl, hgb⟩ := F
  intro H locs ls hP hS hL
  exact lv_astoreN hx hb hd hL.asc hn rfl (fun ls h => k H locs ls hP hS (lhas.set1 ho h))
theorem g_iinc (F : FX X g cc nL own rf rl) {i : Nat} {n : Int} {x v : Int32} (hd : decode cc pc = .ok (.iinc i n, 3)) (hl : lg lv i = some (.int x)) (hv : x + Int32.ofInt n = v) (hn : i < nL) (ho : lok lv i = true) (k : G X g nL M (pc + 3) (lst lv i (some (.int v))) st) : G X g nL M pc lv st := by
  obtain ⟨p, l, e, R, s, m, args, below, meth, c, cells, slots, Q⟩ := X
  obtain ⟨⟨hx, hb, hml, hown, hts⟩, hW, hrf, hrl, hcl, hsl, hgb⟩ := F
  intro H locs ls hP hS hL
  obtain ⟨q, hq⟩ := List.getElem?_of_mem ((lasc_mem lv (i, .int x)).mpr hl)
  exact lv_iinc hx hb hd hL.asc hq hv hn rfl (fun ls h => k H locs ls hP hS (lhas.set1 ho h))
theorem g_iadd (F : FX X g cc nL own rf rl) {x y : Int32} (hd : decode cc pc = .ok (.iadd, 1)) (k : G X g nL M (pc + 1) lv (.int (x + y) :: st)) : G X g nL M pc lv (.int y :: .int x :: st) := by
  obtain ⟨p, l, e, R, s, m, args, below, meth, c, cells, slots, Q⟩ := X
  obtain ⟨⟨hx, hb, hml, hown, hts⟩, hW, hrf, hrl, hcl, hsl, hgb⟩ := F
  intro H locs ls hP hS hL
  exact lv_iadd hx hb hd (k H locs ls hP hS hL)
theorem g_isub (F : FX X g cc nL own rf rl) {x y : Int32} (hd : decode cc pc = .ok (.isub, 1)) (k : G X g nL M (pc + 1) lv (.int (x - y) :: st)) : G X g nL M pc lv (.int y :: .int x :: st) := by
  obtain ⟨p, l, e, R, s, m, args, below, meth, c, cells, slots, Q⟩ := X
  obtain ⟨⟨hx, hb, hml, hown, hts⟩, hW, hrf, hrl, hcl, hsl, hgb⟩ := F
  intro H locs ls hP hS hL
  exact lv_isub hx hb hd (k H locs ls hP hS hL)
theorem g_imul (F : FX X g cc nL own rf rl) {x y : Int32} (hd : decode cc pc = .ok (.imul, 1)) (k : G X g nL M (pc + 1) lv (.int (x * y) :: st)) : G X g nL M pc lv (.int y :: .int x :: st) := by
  obtain ⟨p, l, e, R, s, m, args, below, meth, c, cells, slots, Q⟩ := X
  obtain ⟨⟨hx, hb, hml, hown, hts⟩, hW, hrf, hrl, hcl, hsl, hgb⟩ := F
  intro H locs ls hP hS hL
  exact lv_imul hx hb hd (k H locs ls hP hS hL)
theorem g_iand (F : FX X g cc nL own rf rl) {x y : Int32} (hd : decode cc pc = .ok (.iand, 1)) (k : G X g nL M (pc + 1) lv (.int (x &&& y) :: st)) : G X g nL M pc lv (.int y :: .int x :: st) := by
  obtain ⟨p, l, e, R, s, m, args, below, meth, c, cells, slots, Q⟩ := X
  obtain ⟨⟨hx, hb, hml, hown, hts⟩, hW, hrf, hrl, hcl, hsl, hgb⟩ := F
  intro H locs ls hP hS hL
  exact lv_iand hx hb hd (k H locs ls hP hS hL)
theorem g_ior (F : FX X g cc nL own rf rl) {x y : Int32} (hd : decode cc pc = .ok (.ior, 1)) (k : G X g nL M (pc + 1) lv (.int (x ||| y) :: st)) : G X g nL M pc lv (.int y :: .int x :: st) := by
  obtain ⟨p, l, e, R, s, m, args, below, meth, c, cells, slots, Q⟩ := X
  obtain ⟨⟨hx, hb, hml, hown, hts⟩, hW, hrf, hrl, hcl, hsl, hgb⟩ := F
  intro H locs ls hP hS hL
  exact lv_ior hx hb hd (k H locs ls hP hS hL)
theorem g_ixor (F : FX X g cc nL own rf rl) {x y : Int32} (hd : decode cc pc = .ok (.ixor, 1)) (k : G X g nL M (pc + 1) lv (.int (x ^^^ y) :: st)) : G X g nL M pc lv (.int y :: .int x :: st) := by
  obtain ⟨p, l, e, R, s, m, args, below, meth, c, cells, slots, Q⟩ := X
  obtain ⟨⟨hx, hb, hml, hown, hts⟩, hW, hrf, hrl, hcl, hsl, hgb⟩ := F
  intro H locs ls hP hS hL
  exact lv_ixor hx hb hd (k H locs ls hP hS hL)
theorem g_idiv (F : FX X g cc nL own rf rl) {x y : Int32} (hne : ¬ y = 0) (hd : decode cc pc = .ok (.idiv, 1)) (k : G X g nL M (pc + 1) lv (.int (x / y) :: st)) : G X g nL M pc lv (.int y :: .int x :: st) := by
  obtain ⟨p, l, e, R, s, m, args, below, meth, c, cells, slots, Q⟩ := X
  obtain ⟨⟨hx, hb, hml, hown, hts⟩, hW, hrf, hrl, hcl, hsl, hgb⟩ := F
  intro H locs ls hP hS hL
  exact lv_idiv hx hb hd hne (k H locs ls hP hS hL)
theorem g_irem (F : FX X g cc nL own rf rl) {x y : Int32} (hne : ¬ y = 0) (hd : decode cc pc = .ok (.irem, 1)) (k : G X g nL M (pc + 1) lv (.int (jrem x y) :: st)) : G X g nL M pc lv (.int y :: .int x :: st) := by
  obtain ⟨p, l, e, R, s, m, args, below, meth, c, cells, slots, Q⟩ := X
  obtain ⟨⟨hx, hb, hml, hown, hts⟩, hW, hrf, hrl, hcl, hsl, hgb⟩ := F
  intro H locs ls hP hS hL
  exact lv_irem hx hb hd hne (k H locs ls hP hS hL)
theorem g_ineg (F : FX X g cc nL own rf rl) {x : Int32} (hd : decode cc pc = .ok (.ineg, 1)) (k : G X g nL M (pc + 1) lv (.int (-x) :: st)) : G X g nL M pc lv (.int x :: st) := by
  obtain ⟨p, l, e, R, s, m, args, below, meth, c, cells, slots, Q⟩ := X
  obtain ⟨⟨hx, hb, hml, hown, hts⟩, hW, hrf, hrl, hcl, hsl, hgb⟩ := F
  intro H locs ls hP hS hL
  exact lv_ineg hx hb hd (k H locs ls hP hS hL)
theorem g_ishl (F : FX X g cc nL own rf rl) {x y : Int32} (hd : decode cc pc = .ok (.ishl, 1)) (k : G X g nL M (pc + 1) lv (.int (x <<< (y &&& 31)) :: st)) : G X g nL M pc lv (.int y :: .int x :: st) := by
  obtain ⟨p, l, e, R, s, m, args, below, meth, c, cells, slots, Q⟩ := X
  obtain ⟨⟨hx, hb, hml, hown, hts⟩, hW, hrf, hrl, hcl, hsl, hgb⟩ := F
  intro H locs ls hP hS hL
  exact lv_ishl hx hb hd (k H locs ls hP hS hL)
theorem g_ishr (F : FX X g cc nL own rf rl) {x y : Int32} (hd : decode cc pc = .ok (.ishr, 1)) (k : G X g nL M (pc + 1) lv (.int (x >>> (y &&& 31)) :: st)) : G X g nL M pc lv (.int y :: .int x :: st) := by
  obtain ⟨p, l, e, R, s, m, args, below, meth, c, cells, slots, Q⟩ := X
  obtain ⟨⟨hx, hb, hml, hown, hts⟩, hW, hrf, hrl, hcl, hsl, hgb⟩ := F
  intro H locs ls hP hS hL
  exact lv_ishr hx hb hd (k H locs ls hP hS hL)
theorem g_iushr (F : FX X g cc nL own rf rl) {x y v : Int32} (hd : decode cc pc = .ok (.iushr, 1)) (hv : (x.toUInt32 >>> (y.toUInt32 &&& Int32.toUInt32 31)).toInt32 = v) (k : G X g nL M (pc + 1) lv (.int v :: st)) : G X g nL M pc lv (.int y :: .int x :: st) := by
  obtain ⟨p, l, e, R, s, m, args, below, meth, c, cells, slots, Q⟩ := X
  obtain ⟨⟨hx, hb, hml, hown, hts⟩, hW, hrf, hrl, hcl, hsl, hgb⟩ := F
  intro H locs ls hP hS hL
  exact lv_iushr hx hb hd hv (k H locs ls hP hS hL)
theorem g_i2c (F : FX X g cc nL own rf rl) {x v : Int32} (hd : decode cc pc = .ok (.i2c, 1)) (hv : (x.toUInt32 % 65536).toInt32 = v) (k : G X g nL M (pc + 1) lv (.int v :: st)) : G X g nL M pc lv (.int x :: st) := by
  obtain ⟨p, l, e, R, s, m, args, below, meth, c, cells, slots, Q⟩ := X
  obtain ⟨⟨hx, hb, hml, hown, hts⟩, hW, hrf, hrl, hcl, hsl, hgb⟩ := F
  intro H locs ls hP hS hL
  exact lv_i2c hx hb hd hv (k H locs ls hP hS hL)
theorem g_i2l (F : FX X g cc nL own rf rl) {x : Int32} {v : Int64} (hd : decode cc pc = .ok (.i2l, 1)) (hv : x.toInt64 = v) (k : G X g nL M (pc + 1) lv (.long v :: st)) : G X g nL M pc lv (.int x :: st) := by
  obtain ⟨p, l, e, R, s, m, args, below, meth, c, cells, slots, Q⟩ := X
  obtain ⟨⟨hx, hb, hml, hown, hts⟩, hW, hrf, hrl, hcl, hsl, hgb⟩ := F
  intro H locs ls hP hS hL
  exact lv_i2l hx hb hd hv (k H locs ls hP hS hL)
theorem g_lshl (F : FX X g cc nL own rf rl) {x v : Int64} {y : Int32} (hd : decode cc pc = .ok (.lshl, 1)) (hv : x <<< (y.toInt64 &&& 63) = v) (k : G X g nL M (pc + 1) lv (.long v :: st)) : G X g nL M pc lv (.int y :: .long x :: st) := by
  obtain ⟨p, l, e, R, s, m, args, below, meth, c, cells, slots, Q⟩ := X
  obtain ⟨⟨hx, hb, hml, hown, hts⟩, hW, hrf, hrl, hcl, hsl, hgb⟩ := F
  intro H locs ls hP hS hL
  exact lv_lshl hx hb hd hv (k H locs ls hP hS hL)
theorem g_lor (F : FX X g cc nL own rf rl) {x y : Int64} (hd : decode cc pc = .ok (.lor, 1)) (k : G X g nL M (pc + 1) lv (.long (x ||| y) :: st)) : G X g nL M pc lv (.long y :: .long x :: st) := by
  obtain ⟨p, l, e, R, s, m, args, below, meth, c, cells, slots, Q⟩ := X
  obtain ⟨⟨hx, hb, hml, hown, hts⟩, hW, hrf, hrl, hcl, hsl, hgb⟩ := F
  intro H locs ls hP hS hL
  exact lv_lor hx hb hd (k H locs ls hP hS hL)
theorem g_lcmp (F : FX X g cc nL own rf rl) {x y : Int64} (hd : decode cc pc = .ok (.lcmp, 1)) (k : G X g nL M (pc + 1) lv (.int (lg_cmp x y) :: st)) : G X g nL M pc lv (.long y :: .long x :: st) := by
  obtain ⟨p, l, e, R, s, m, args, below, meth, c, cells, slots, Q⟩ := X
  obtain ⟨⟨hx, hb, hml, hown, hts⟩, hW, hrf, hrl, hcl, hsl, hgb⟩ := F
  intro H locs ls hP hS hL
  exact W.lcmp hx hb hd (k H locs ls hP hS hL)
theorem g_dadd (F : FX X g cc nL own rf rl) {x y : UInt64} (hne : vf_n64 (FP.dadd x y)) (hd : decode cc pc = .ok (.dadd, 1)) (k : G X g nL M (pc + 1) lv (.double (FP.dadd x y) :: st)) : G X g nL M pc lv (.double y :: .double x :: st) := by
  obtain ⟨p, l, e, R, s, m, args, below, meth, c, cells, slots, Q⟩ := X
  obtain ⟨⟨hx, hb, hml, hown, hts⟩, hW, hrf, hrl, hcl, hsl, hgb⟩ := F
  intro H locs ls hP hS hL
  exact lv_dadd hx hb hd hne (k H locs ls hP hS hL)
theorem g_dsub (F : FX X g cc nL own rf rl) {x y : UInt64} (hne : vf_n64 (FP.dsub x y)) (hd : decode cc pc = .ok (.dsub, 1)) (k : G X g nL M (pc + 1) lv (.double (FP.dsub x y) :: st)) : G X g nL M pc lv (.double y :: .double x :: st) := by
  obtain ⟨p, l, e, R, s, m, args, below, meth, c, cells, slots, Q⟩ := X
  obtain ⟨⟨hx, hb, hml, hown, hts⟩, hW, hrf, hrl, hcl, hsl, hgb⟩ := F
  intro H locs ls hP hS hL
  exact lv_dsub hx hb hd hne (k H locs ls hP hS hL)
theorem g_dmul (F : FX X g cc nL own rf rl) {x y : UInt64} (hne : vf_n64 (FP.dmul x y)) (hd : decode cc pc = .ok (.dmul, 1)) (k : G X g nL M (pc + 1) lv (.double (FP.dmul x y) :: st)) : G X g nL M pc lv (.double y :: .double x :: st) := by
  obtain ⟨p, l, e, R, s, m, args, below, meth, c, cells, slots, Q⟩ := X
  obtain ⟨⟨hx, hb, hml, hown, hts⟩, hW, hrf, hrl, hcl, hsl, hgb⟩ := F
  intro H locs ls hP hS hL
  exact lv_dmul hx hb hd hne (k H locs ls hP hS hL)
theorem g_ddiv (F : FX X g cc nL own rf rl) {x y : UInt64} (hne : vf_n64 (FP.ddiv x y)) (hd : decode cc pc = .ok (.ddiv, 1)) (k : G X g nL M (pc + 1) lv (.double (FP.ddiv x y) :: st)) : G X g nL M pc lv (.double y :: .double x :: st) := by
  obtain ⟨p, l, e, R, s, m, args, below, meth, c, cells, slots, Q⟩ := X
  obtain ⟨⟨hx, hb, hml, hown, hts⟩, hW, hrf, hrl, hcl, hsl, hgb⟩ := F
  intro H locs ls hP hS hL
  exact lv_ddiv hx hb hd hne (k H locs ls hP hS hL)
theorem g_dneg (F : FX X g cc nL own rf rl) {x : UInt64} (hd : decode cc pc = .ok (.dneg, 1)) (k : G X g nL M (pc + 1) lv (.double (FP.dneg x) :: st)) : G X g nL M pc lv (.double x :: st) := by
  obtain ⟨p, l, e, R, s, m, args, below, meth, c, cells, slots, Q⟩ := X
  obtain ⟨⟨hx, hb, hml, hown, hts⟩, hW, hrf, hrl, hcl, hsl, hgb⟩ := F
  intro H locs ls hP hS hL
  exact lv_dneg hx hb hd (k H locs ls hP hS hL)
theorem g_dcmp (F : FX X g cc nL own rf rl) {x y : UInt64} {op : CmpOp} (hd : decode cc pc = .ok (.dcmp op, 1)) (k : G X g nL M (pc + 1) lv (.int (Op.cmpValue (FP.dcmp x y) op) :: st)) : G X g nL M pc lv (.double y :: .double x :: st) := by
  obtain ⟨p, l, e, R, s, m, args, below, meth, c, cells, slots, Q⟩ := X
  obtain ⟨⟨hx, hb, hml, hown, hts⟩, hW, hrf, hrl, hcl, hsl, hgb⟩ := F
  intro H locs ls hP hS hL
  exact lv_dcmp hx hb hd (k H locs ls hP hS hL)
theorem g_i2d (F : FX X g cc nL own rf rl) {x : Int32} (hd : decode cc pc = .ok (.i2d, 1)) (k : G X g nL M (pc + 1) lv (.double (FP.i2d x) :: st)) : G X g nL M pc lv (.int x :: st) := by
  obtain ⟨p, l, e, R, s, m, args, below, meth, c, cells, slots, Q⟩ := X
  obtain ⟨⟨hx, hb, hml, hown, hts⟩, hW, hrf, hrl, hcl, hsl, hgb⟩ := F
  intro H locs ls hP hS hL
  exact lv_i2d hx hb hd (k H locs ls hP hS hL)
theorem g_d2l (F : FX X g cc nL own rf rl) {x : UInt64} (hd : decode cc pc = .ok (.d2l, 1)) (k : G X g nL M (pc + 1) lv (.long (FP.d2l x) :: st)) : G X g nL M pc lv (.double x :: st) := by
  obtain ⟨p, l, e, R, s, m, args, below, meth, c, cells, slots, Q⟩ := X
  obtain ⟨⟨hx, hb, hml, hown, hts⟩, hW, hrf, hrl, hcl, hsl, hgb⟩ := F
  intro H locs ls hP hS hL
  exact lv_d2l hx hb hd (k H locs ls hP hS hL)
theorem g_dup (F : FX X g cc nL own rf rl) {v : Value} (hd : decode cc pc = .ok (.dup, 1)) (hv : v.category = 1) (k : G X g nL M (pc + 1) lv (v :: v :: st)) : G X g nL M pc lv (v :: st) := by
  obtain ⟨p, l, e, R, s, m, args, below, meth, c, cells, slots, Q⟩ := X
  obtain ⟨⟨hx, hb, hml, hown, hts⟩, hW, hrf, hrl, hcl, hsl, hgb⟩ := F
  intro H locs ls hP hS hL
  exact lv_dup hx hb hd hv (k H locs ls hP hS hL)
theorem g_pop (F : FX X g cc nL own rf rl) {v : Value} (hd : decode cc pc = .ok (.pop, 1)) (hv : v.category = 1) (k : G X g nL M (pc + 1) lv st) : G X g nL M pc lv (v :: st) := by
  obtain ⟨p, l, e, R, s, m, args, below, meth, c, cells, slots, Q⟩ := X
  obtain ⟨⟨hx, hb, hml, hown, hts⟩, hW, hrf, hrl, hcl, hsl, hgb⟩ := F
  intro H locs ls hP hS hL
  exact lv_pop hx hb hd hv (k H locs ls hP hS hL)
theorem g_dup2 (F : FX X g cc nL own rf rl) {v w : Value} (hd : decode cc pc = .ok (.dup2, 1)) (hv : v.category = 1) (hw : w.category = 1) (k : G X g nL M (pc + 1) lv (v :: w :: v :: w :: st)) : G X g nL M pc lv (v :: w :: st) := by
  obtain ⟨p, l, e, R, s, m, args, below, meth, c, cells, slots, Q⟩ := X
  obtain ⟨⟨hx, hb, hml, hown, hts⟩, hW, hrf, hrl, hcl, hsl, hgb⟩ := F
  intro H locs ls hP hS hL
  exact lv_dup2_11 hx hb hd hv hw (k H locs ls hP hS hL)
theorem g_goto (F : FX X g cc nL own rf rl) {off : Int} {tgt : Nat} (hd : decode cc pc = .ok (.goto off, 3)) (ht : (pc : Int) + off = (tgt : Int)) (k : G X g nL M tgt lv st) : G X g nL M pc lv st := by
  obtain ⟨p, l, e, R, s, m, args, below, meth, c, cells, slots, Q⟩ := X
  obtain ⟨⟨hx, hb, hml, hown, hts⟩, hW, hrf, hrl, hcl, hsl, hgb⟩ := F
  intro H locs ls hP hS hL
  exact lv_goto hx hb hd ht (k H locs ls hP hS hL)
theorem g_if_eq (F : FX X g cc nL own rf rl) {x : Int32} {off : Int} {tgt : Nat} (hd : decode cc pc = .ok (.ifCond .eq off, 3)) (ht : (pc : Int) + off = (tgt : Int)) (kt : x = 0 → G X g nL M tgt lv st) (kf : ¬ x = 0 → G X g nL M (pc + 3) lv st) : G X g nL M pc lv (.int x :: st) := by
  obtain ⟨p, l, e, R, s, m, args, below, meth, c, cells, slots, Q⟩ := X
  obtain ⟨⟨hx, hb, hml, hown, hts⟩, hW, hrf, hrl, hcl, hsl, hgb⟩ := F
  intro H locs ls hP hS hL
  exact lv_if_eq hx hb hd ht (fun q => kt q H locs ls hP hS hL) (fun q => kf q H locs ls hP hS hL)
theorem g_icmp_eq (F : FX X g cc nL own rf rl) {x y : Int32} {off : Int} {tgt : Nat} (hd : decode cc pc = .ok (.if_icmp .eq off, 3)) (ht : (pc : Int) + off = (tgt : Int)) (kt : x = y → G X g nL M tgt lv st) (kf : ¬ x = y → G X g nL M (pc + 3) lv st) : G X g nL M pc lv (.int y :: .int x :: st) := by
  obtain ⟨p, l, e, R, s, m, args, below, meth, c, cells, slots, Q⟩ := X
  obtain ⟨⟨hx, hb, hml, hown, hts⟩, hW, hrf, hrl, hcl, hsl, hgb⟩ := F
  intro H locs ls hP hS hL
  exact lv_icmp_eq hx hb hd ht (fun q => kt q H locs ls hP hS hL) (fun q => kf q H locs ls hP hS hL)
theorem g_if_ne (F : FX X g cc nL own rf rl) {x : Int32} {off : Int} {tgt : Nat} (hd : decode cc pc = .ok (.ifCond .ne off, 3)) (ht : (pc : Int) + off = (tgt : Int)) (kt : ¬ x = 0 → G X g nL M tgt lv st) (kf : x = 0 → G X g nL M (pc + 3) lv st) : G X g nL M pc lv (.int x :: st) := by
  obtain ⟨p, l, e, R, s, m, args, below, meth, c, cells, slots, Q⟩ := X
  obtain ⟨⟨hx, hb, hml, hown, hts⟩, hW, hrf, hrl, hcl, hsl, hgb⟩ := F
  intro H locs ls hP hS hL
  exact lv_if_ne hx hb hd ht (fun q => kt q H locs ls hP hS hL) (fun q => kf q H locs ls hP hS hL)
theorem g_icmp_ne (F : FX X g cc nL own rf rl) {x y : Int32} {off : Int} {tgt : Nat} (hd : decode cc pc = .ok (.if_icmp .ne off, 3)) (ht : (pc : Int) + off = (tgt : Int)) (kt : ¬ x = y → G X g nL M tgt lv st) (kf : x = y → G X g nL M (pc + 3) lv st) : G X g nL M pc lv (.int y :: .int x :: st) := by
  obtain ⟨p, l, e, R, s, m, args, below, meth, c, cells, slots, Q⟩ := X
  obtain ⟨⟨hx, hb, hml, hown, hts⟩, hW, hrf, hrl, hcl, hsl, hgb⟩ := F
  intro H locs ls hP hS hL
  exact lv_icmp_ne hx hb hd ht (fun q => kt q H locs ls hP hS hL) (fun q => kf q H locs ls hP hS hL)
theorem g_if_lt (F : FX X g cc nL own rf rl) {x : Int32} {off : Int} {tgt : Nat} (hd : decode cc pc = .ok (.ifCond .lt off, 3)) (ht : (pc : Int) + off = (tgt : Int)) (kt : x < 0 → G X g nL M tgt lv st) (kf : ¬ x < 0 → G X g nL M (pc + 3) lv st) : G X g nL M pc lv (.int x :: st) := by
  obtain ⟨p, l, e, R, s, m, args, below, meth, c, cells, slots, Q⟩ := X
  obtain ⟨⟨hx, hb, hml, hown, hts⟩, hW, hrf, hrl, hcl, hsl, hgb⟩ := F
  intro H locs ls hP hS hL
  exact lv_if_lt hx hb hd ht (fun q => kt q H locs ls hP hS hL) (fun q => kf q H locs ls hP hS hL)
theorem g_icmp_lt (F : FX X g cc nL own rf rl) {x y : Int32} {off : Int} {tgt : Nat} (hd : decode cc pc = .ok (.if_icmp .lt off, 3)) (ht : (pc : Int) + off = (tgt : Int)) (kt : x < y → G X g nL M tgt lv st) (kf : ¬ x < y → G X g nL M (pc + 3) lv st) : G X g nL M pc lv (.int y :: .int x :: st) := by
  obtain ⟨p, l, e, R, s, m, args, below, meth, c, cells, slots, Q⟩ := X
  obtain ⟨⟨hx, hb, hml, hown, hts⟩, hW, hrf, hrl, hcl, hsl, hgb⟩ := F
  intro H locs ls hP hS hL
  exact lv_icmp_lt hx hb hd ht (fun q => kt q H locs ls hP hS hL) (fun q => kf q H locs ls hP hS hL)
theorem g_if_ge (F : FX X g cc nL own rf rl) {x : Int32} {off : Int} {tgt : Nat} (hd : decode cc pc = .ok (.ifCond .ge off, 3)) (ht : (pc : Int) + off = (tgt : Int)) (kt : 0 ≤ x → G X g nL M tgt lv st) (kf : ¬ 0 ≤ x → G X g nL M (pc + 3) lv st) : G X g nL M pc lv (.int x :: st) := by
  obtain ⟨p, l, e, R, s, m, args, below, meth, c, cells, slots, Q⟩ := X
  obtain ⟨⟨hx, hb, hml, hown, hts⟩, hW, hrf, hrl, hcl, hsl, hgb⟩ := F
  intro H locs ls hP hS hL
  exact lv_if_ge hx hb hd ht (fun q => kt q H locs ls hP hS hL) (fun q => kf q H locs ls hP hS hL)
theorem g_icmp_ge (F : FX X g cc nL own rf rl) {x y : Int32} {off : Int} {tgt : Nat} (hd : decode cc pc = .ok (.if_icmp .ge off, 3)) (ht : (pc : Int) + off = (tgt : Int)) (kt : y ≤ x → G X g nL M tgt lv st) (kf : ¬ y ≤ x → G X g nL M (pc + 3) lv st) : G X g nL M pc lv (.int y :: .int x :: st) := by
  obtain ⟨p, l, e, R, s, m, args, below, meth, c, cells, slots, Q⟩ := X
  obtain ⟨⟨hx, hb, hml, hown, hts⟩, hW, hrf, hrl, hcl, hsl, hgb⟩ := F
  intro H locs ls hP hS hL
  exact lv_icmp_ge hx hb hd ht (fun q => kt q H locs ls hP hS hL) (fun q => kf q H locs ls hP hS hL)
theorem g_if_gt (F : FX X g cc nL own rf rl) {x : Int32} {off : Int} {tgt : Nat} (hd : decode cc pc = .ok (.ifCond .gt off, 3)) (ht : (pc : Int) + off = (tgt : Int)) (kt : 0 < x → G X g nL M tgt lv st) (kf : ¬ 0 < x → G X g nL M (pc + 3) lv st) : G X g nL M pc lv (.int x :: st) := by
  obtain ⟨p, l, e, R, s, m, args, below, meth, c, cells, slots, Q⟩ := X
  obtain ⟨⟨hx, hb, hml, hown, hts⟩, hW, hrf, hrl, hcl, hsl, hgb⟩ := F
  intro H locs ls hP hS hL
  exact lv_if_gt hx hb hd ht (fun q => kt q H locs ls hP hS hL) (fun q => kf q H locs ls hP hS hL)
theorem g_icmp_gt (F : FX X g cc nL own rf rl) {x y : Int32} {off : Int} {tgt : Nat} (hd : decode cc pc = .ok (.if_icmp .gt off, 3)) (ht : (pc : Int) + off = (tgt : Int)) (kt : y < x → G X g nL M tgt lv st) (kf : ¬ y < x → G X g nL M (pc + 3) lv st) : G X g nL M pc lv (.int y :: .int x :: st) := by
  obtain ⟨p, l, e, R, s, m, args, below, meth, c, cells, slots, Q⟩ := X
  obtain ⟨⟨hx, hb, hml, hown, hts⟩, hW, hrf, hrl, hcl, hsl, hgb⟩ := F
  intro H locs ls hP hS hL
  exact lv_icmp_gt hx hb hd ht (fun q => kt q H locs ls hP hS hL) (fun q => kf q H locs ls hP hS hL)
theorem g_if_le (F : FX X g cc nL own rf rl) {x : Int32} {off : Int} {tgt : Nat} (hd : decode cc pc = .ok (.ifCond .le off, 3)) (ht : (pc : Int) + off = (tgt : Int)) (kt : x ≤ 0 → G X g nL M tgt lv st) (kf : ¬ x ≤ 0 → G X g nL M (pc + 3) lv st) : G X g nL M pc lv (.int x :: st) := by
  obtain ⟨p, l, e, R, s, m, args, below, meth, c, cells, slots, Q⟩ := X
  obtain ⟨⟨hx, hb, hml, hown, hts⟩, hW, hrf, hrl, hcl, hsl, hgb⟩ := F
  intro H locs ls hP hS hL
  exact lv_if_le hx hb hd ht (fun q => kt q H locs ls hP hS hL) (fun q => kf q H locs ls hP hS hL)
theorem g_icmp_le (F : FX X g cc nL own rf rl) {x y : Int32} {off : Int} {tgt : Nat} (hd : decode cc pc = .ok (.if_icmp .le off, 3)) (ht : (pc : Int) + off = (tgt : Int)) (kt : x ≤ y → G X g nL M tgt lv st) (kf : ¬ x ≤ y → G X g nL M (pc + 3) lv st) : G X g nL M pc lv (.int y :: .int x :: st) := by
  obtain ⟨p, l, e, R, s, m, args, below, meth, c, cells, slots, Q⟩ := X
  obtain ⟨⟨hx, hb, hml, hown, hts⟩, hW, hrf, hrl, hcl, hsl, hgb⟩ := F
  intro H locs ls hP hS hL
  exact lv_icmp_le hx hb hd ht (fun q => kt q H locs ls hP hS hL) (fun q => kf q H locs ls hP hS hL)
theorem g_ifnonnull (F : FX X g cc nL own rf rl) {x : Nat} {off : Int} {tgt : Nat} (hd : decode cc pc = .ok (.ifnonnull off, 3)) (ht : (pc : Int) + off = (tgt : Int)) (k : G X g nL M tgt lv st) : G X g nL M pc lv (.ref x :: st) := by
  obtain ⟨p, l, e, R, s, m, args, below, meth, c, cells, slots, Q⟩ := X
  obtain ⟨⟨hx, hb, hml, hown, hts⟩, hW, hrf, hrl, hcl, hsl, hgb⟩ := F
  intro H locs ls hP hS hL
  exact lv_ifnonnull hx hb hd ht (k H locs ls hP hS hL)
theorem g_ifnull (F : FX X g cc nL own rf rl) {x : Nat} {off : Int} (hd : decode cc pc = .ok (.ifnull off, 3)) (k : G X g nL M (pc + 3) lv st) : G X g nL M pc lv (.ref x :: st) := by
  obtain ⟨p, l, e, R, s, m, args, below, meth, c, cells, slots, Q⟩ := X
  obtain ⟨⟨hx, hb, hml, hown, hts⟩, hW, hrf, hrl, hcl, hsl, hgb⟩ := F
  intro H locs ls hP hS hL
  exact lv_ifnull hx hb hd (k H locs ls hP hS hL)
theorem g_ifnullN (F : FX X g cc nL own rf rl) {off : Int} {tgt : Nat} (hd : decode cc pc = .ok (.ifnull off, 3)) (ht : (pc : Int) + off = (tgt : Int)) (k : G X g nL M tgt lv st) : G X g nL M pc lv (.null :: st) := by
  obtain ⟨p, l, e, R, s, m, args, below, meth, c, cells, slots, Q⟩ := X
  obtain ⟨⟨hx, hb, hml, hown, hts⟩, hW, hrf, hrl, hcl, hsl, hgb⟩ := F
  intro H locs ls hP hS hL
  exact lv_ifnullN hx hb hd ht (k H locs ls hP hS hL)
theorem g_ifnonnullN (F : FX X g cc nL own rf rl) {off : Int} (hd : decode cc pc = .ok (.ifnonnull off, 3)) (k : G X g nL M (pc + 3) lv st) : G X g nL M pc lv (.null :: st) := by
  obtain ⟨p, l, e, R, s, m, args, below, meth, c, cells, slots, Q⟩ := X
  obtain ⟨⟨hx, hb, hml, hown, hts⟩, hW, hrf, hrl, hcl, hsl, hgb⟩ := F
  intro H locs ls hP hS hL
  exact lv_ifnonnullN hx hb hd (k H locs ls hP hS hL)
theorem g_tableOut (F : FX X g cc nL own rf rl) {dflt lo hi : Int} {offs : Array Int} {len : Nat} {x : Int32} {tgt : Nat} (hd : decode cc pc = .ok (.tableswitch dflt lo hi offs, len)) (h : x.toInt < lo ∨ hi < x.toInt) (ht : (pc : Int) + dflt = (tgt : Int)) (k : G X g nL M tgt lv st) : G X g nL M pc lv (.int x :: st) := by
  obtain ⟨p, l, e, R, s, m, args, below, meth, c, cells, slots, Q⟩ := X
  obtain ⟨⟨hx, hb, hml, hown, hts⟩, hW, hrf, hrl, hcl, hsl, hgb⟩ := F
  intro H locs ls hP hS hL
  exact lv_tableOut hx hb hd h ht (k H locs ls hP hS hL)
theorem g_tableIn (F : FX X g cc nL own rf rl) {dflt lo hi : Int} {offs : Array Int} {len : Nat} {x : Int32} {off : Int} {tgt : Nat} (hd : decode cc pc = .ok (.tableswitch dflt lo hi offs, len)) (h1 : ¬ x.toInt < lo) (h2 : ¬ hi < x.toInt) (ho : offs[(x.toInt - lo).toNat]? = some off) (ht : (pc : Int) + off = (tgt : Int)) (k : G X g nL M tgt lv st) : G X g nL M pc lv (.int x :: st) := by
  obtain ⟨p, l, e, R, s, m, args, below, meth, c, cells, slots, Q⟩ := X
  obtain ⟨⟨hx, hb, hml, hown, hts⟩, hW, hrf, hrl, hcl, hsl, hgb⟩ := F
  intro H locs ls hP hS hL
  exact lv_tableIn hx hb hd h1 h2 ho ht (k H locs ls hP hS hL)
theorem g_lookup (F : FX X g cc nL own rf rl) {dflt : Int} {ps : Array (Int × Int)} {len : Nat} {x : Int32} {off : Int} {tgt : Nat} (hd : decode cc pc = .ok (.lookupswitch dflt ps, len)) (hp : (ps.toList.zip (ps.toList.drop 1)).all (fun (a, next) => a.1 < next.1) = true) (ho : Op.lookupswitch.offset ps.toList dflt x.toInt = off) (ht : (pc : Int) + off = (tgt : Int)) (k : G X g nL M tgt lv st) : G X g nL M pc lv (.int x :: st) := by
  obtain ⟨p, l, e, R, s, m, args, below, meth, c, cells, slots, Q⟩ := X
  obtain ⟨⟨hx, hb, hml, hown, hts⟩, hW, hrf, hrl, hcl, hsl, hgb⟩ := F
  intro H locs ls hP hS hL
  exact lv_lookup hx hb hd hp ho ht (k H locs ls hP hS hL)
end GROWS
/-! fields -/
def FL (own : String) (idx ci j : Nat) (fin : Bool) (ty : FieldType) : Prop := ∃ (C : String) (T : u_T) (N : Nat) (ty0 : Nat → FieldType), vwCl[ci]? = some (C, T, N) ∧ ci < 9 ∧ (∀ w ∈ u_ws C T N, w ∈ lw_ws) ∧ j < N ∧ (∀ k, k < N → parseFieldDescriptor (T k).2.2.1 = some (ty0 k)) ∧ (∀ a, a < N → ∀ b, b < N → a ≠ b → (T a).2.1 ≠ (T b).2.1) ∧ (Cond.fieldLink own idx (T j).1 (T j).2.1 (T j).2.2.1 ∈ lw_ws ∨ Cond.fieldLinkNest own idx (T j).1 (T j).2.1 (T j).2.2.1 "RenewalClocks" ∈ nestW) ∧ (T j).2.2.2 = fin ∧ ty0 j = ty
section GMEM
variable {X : XT} {g : Gm} {cc : ByteArray} {nL : Nat} {own : String} {rf rl : Nat} {M : Mem} {pc : Nat} {lv : List (Option Value)} {st : List Value}
theorem g_geti (F : FX X g cc nL own rf rl) {k ci j idx : Nat} {fin : Bool} {ty : FieldType} (w : FL own idx ci j fin ty) (hk : kd k = ci) (ht : (tpl ci)[j]? = some none) (hd : decode cc pc = .ok (.getfield idx, 3)) (kk : G X g nL M (pc + 3) lv (.int (M k j) :: st)) : G X g nL M pc lv (.ref (ad g k) :: st) := by
  obtain ⟨p, l, e, R, s, m, args, below, meth, c, cells, slots, Q⟩ := X
  obtain ⟨⟨hx, hb, hml, hown, hts⟩, hW, hrf, hrl, hcl, hsl, hgb⟩ := F
  intro H locs ls hP hS hL
  obtain ⟨C, T, N, ty0, hc, h9, hin, hj, hty, hnm, hl, hf, ht0⟩ := w
  have hkk := kd_lt hk (by omega)
  have he : (wWs g M)[k]? = some (ad g k, .inr (ci, wF g M k 0 (tpl ci))) := by rw [wWs_at g M hkk, wE_obj g M hk h9]
  have hv : (wF g M k 0 (tpl ci))[j]? = some (.int (M k j)) := by
    have h := wF_at g M k (tpl ci) 0 j ht
    simpa [rv] using h
  rcases hl with hl | hl
  · exact va_get hx hb hts hin hown hW.2.2.1 hP k he hc j hj (hts _ hl) (fun _ h => h) hv hd (kk H locs ls hP hS hL)
  · exact va_getN hx hb hts hin hown hW.2.2.1 hP k he hc j hj (va_Nw.use rfl (hW.2.2.2 _ hl)) (fun _ h => h) hv hd (kk H locs ls hP hS hL)
theorem g_getr (F : FX X g cc nL own rf rl) {k ci j idx : Nat} {fin : Bool} {ty : FieldType} {f : Nat → Nat} (w : FL own idx ci j fin ty) (hk : kd k = ci) (ht : (tpl ci)[j]? = some (some f)) (hd : decode cc pc = .ok (.getfield idx, 3)) (kk : G X g nL M (pc + 3) lv (.ref (ad g (f k)) :: st)) : G X g nL M pc lv (.ref (ad g k) :: st) := by
  obtain ⟨p, l, e, R, s, m, args, below, meth, c, cells, slots, Q⟩ := X
  obtain ⟨⟨hx, hb, hml, hown, hts⟩, hW, hrf, hrl, hcl, hsl, hgb⟩ := F
  intro H locs ls hP hS hL
  obtain ⟨C, T, N, ty0, hc, h9, hin, hj, hty, hnm, hl, hf, ht0⟩ := w
  have hkk := kd_lt hk (by omega)
  have he : (wWs g M)[k]? = some (ad g k, .inr (ci, wF g M k 0 (tpl ci))) := by rw [wWs_at g M hkk, wE_obj g M hk h9]
  have hv : (wF g M k 0 (tpl ci))[j]? = some (.ref (ad g (f k))) := by
    have h := wF_at g M k (tpl ci) 0 j ht
    simpa [rv] using h
  rcases hl with hl | hl
  · exact va_get hx hb hts hin hown hW.2.2.1 hP k he hc j hj (hts _ hl) (fun _ h => h) hv hd (kk H locs ls hP hS hL)
  · exact va_getN hx hb hts hin hown hW.2.2.1 hP k he hc j hj (va_Nw.use rfl (hW.2.2.2 _ hl)) (fun _ h => h) hv hd (kk H locs ls hP hS hL)
theorem g_puti (F : FX X g cc nL own rf rl) {k ci j idx : Nat} {ty : FieldType} {x : Int32} (w : FL own idx ci j false ty) (hn : narrow ty (.int x) = .int x) (hfit : fits ty (.int x) = true) (hk : kd k = ci) (ht : (tpl ci)[j]? = some none) (hd : decode cc pc = .ok (.putfield idx, 3)) (kk : G X g nL (upd2 M k j x) (pc + 3) lv st) : G X g nL M pc lv (.int x :: .ref (ad g k) :: st) := by
  obtain ⟨p, l, e, R, s, m, args, below, meth, c, cells, slots, Q⟩ := X
  obtain ⟨⟨hx, hb, hml, hown, hts⟩, hW, hrf, hrl, hcl, hsl, hgb⟩ := F
  intro H locs ls hP hS hL
  obtain ⟨C, T, N, ty0, hc, h9, hin, hj, hty, hnm, hl, hf, ht0⟩ := w
  have hkk := kd_lt hk (by omega)
  have he : (wWs g M)[k]? = some (ad g k, .inr (ci, wF g M k 0 (tpl ci))) := by rw [wWs_at g M hkk, wE_obj g M hk h9]
  have hlen : j < (wF g M k 0 (tpl ci)).length := by
    rw [wF_len]
    exact (List.getElem?_eq_some_iff.mp ht).1
  have hset : (wWs g M).set k (ad g k, .inr (ci, (wF g M k 0 (tpl ci)).set j (.int x))) = wWs g (upd2 M k j x) := by
    refine wWs_set g hkk ?_ (fun a ha => wE_row g (upd2_ne M j x ha))
    rw [wE_obj g _ hk h9, wF_set g M k j x (tpl ci) 0 j (Nat.zero_add _) ht]
  have hdty : parseFieldDescriptor (T j).2.2.1 = some ty := by rw [hty j hj, ht0]
  rcases hl with hl | hl
  · refine va_put hx hb hts hin ty0 hty hnm hown hW.2.2.1 hP (wWs_D hW M) hS k he hc j hj (hts _ hl) (fun _ h => h) hf hdty hn hfit hlen hd (fun H1 locs1 hP1 hD1 hS1 => ?_)
    rw [hset] at hP1
    exact kk H1 locs1 ls hP1 hS1 hL
  · refine va_putN hx hb hts hin ty0 hty hnm hown hW.2.2.1 hP (wWs_D hW M) hS k he hc j hj (va_Nw.use rfl (hW.2.2.2 _ hl)) (fun _ h => h) hf hdty hn hfit hlen hd (fun H1 locs1 hP1 hD1 hS1 => ?_)
    rw [hset] at hP1
    exact kk H1 locs1 ls hP1 hS1 hL
/-! arrays -/
theorem iarr_le {c n : Nat} (h : iarr c = some n) : n ≤ 440 := by
  unfold iarr at h
  split at h <;> simp at h <;> omega
theorem g_iald (F : FX X g cc nL own rf rl) {k c n q : Nat} {i : Int32} (hk : kd k = c) (hn : iarr c = some n) (hi : i = nI q) (hq : q < n) (hd : decode cc pc = .ok (.iaload, 1)) (kk : G X g nL M (pc + 1) lv (.int (M k q) :: st)) : G X g nL M pc lv (.int i :: .ref (ad g k) :: st) := by
  obtain ⟨p, l, e, R, s, m, args, below, meth, c0, cells, slots, Q⟩ := X
  obtain ⟨⟨hx, hb, hml, hown, hts⟩, hW, hrf, hrl, hcl, hsl, hgb⟩ := F
  intro H locs ls hP hS hL
  have hkk : k < 228 := kd_lt hk (by unfold iarr at hn; split at hn <;> simp_all)
  have hn4 := iarr_le hn
  subst hi
  refine va_iald hx hb hW.2.2.1 hP k 0 (by rw [wWs_at g M hkk, wE_iarr g M hk hn]) rfl (vp_in_nI hq (by omega)) hd ?_
  rw [nI_clamp (by omega)]
  exact kk H locs ls hP hS hL
theorem g_iast (F : FX X g cc nL own rf rl) {k c n q : Nat} {i x : Int32} (hk : kd k = c) (hn : iarr c = some n) (hi : i = nI q) (hq : q < n) (hd : decode cc pc = .ok (.iastore, 1)) (kk : G X g nL (upd2 M k q x) (pc + 1) lv st) : G X g nL M pc lv (.int x :: .int i :: .ref (ad g k) :: st) := by
  obtain ⟨p, l, e, R, s, m, args, below, meth, c0, cells, slots, Q⟩ := X
  obtain ⟨⟨hx, hb, hml, hown, hts⟩, hW, hrf, hrl, hcl, hsl, hgb⟩ := F
  intro H locs ls hP hS hL
  have hkk : k < 228 := kd_lt hk (by unfold iarr at hn; split at hn <;> simp_all)
  have hn4 := iarr_le hn
  subst hi
  refine va_iast hx hb hW.2.2.1 hP (wWs_D hW M) hS k 0 (by rw [wWs_at g M hkk, wE_iarr g M hk hn]) rfl (vp_in_nI hq (by omega)) hd (fun H1 locs1 hP1 hD1 hS1 => ?_)
  rw [nI_clamp (by omega)] at hP1
  rw [wWs_set g hkk (M' := upd2 M k q x) (by rw [wE_iarr g _ hk hn, upd2_row]) (fun a ha => wE_row g (upd2_ne M _ x ha))] at hP1
  exact kk H1 locs1 ls hP1 hS1 hL
theorem wE_14 (g : Gm) (M : Mem) {k : Nat} (h : kd k = 14) : wE g M k = .inl (gC g 1, 60, .inl (M k)) := by rw [wE_arr g M h (by decide)]; rfl
theorem g_cald (F : FX X g cc nL own rf rl) {k q : Nat} {i : Int32} (hk : kd k = 14) (hi : i = nI q) (hq : q < 60) (hd : decode cc pc = .ok (.caload, 1)) (kk : G X g nL M (pc + 1) lv (.int (M k q) :: st)) : G X g nL M pc lv (.int i :: .ref (ad g k) :: st) := by
  obtain ⟨p, l, e, R, s, m, args, below, meth, c0, cells, slots, Q⟩ := X
  obtain ⟨⟨hx, hb, hml, hown, hts⟩, hW, hrf, hrl, hcl, hsl, hgb⟩ := F
  intro H locs ls hP hS hL
  subst hi
  refine va_cald hx hb hW.2.2.1 hP k 1 (by rw [wWs_at g M (kd_lt hk (by decide)), wE_14 g M hk]) rfl (vp_in_nI hq (by decide)) hd ?_
  rw [nI_clamp (by omega)]
  exact kk H locs ls hP hS hL
theorem g_cast (F : FX X g cc nL own rf rl) {k q : Nat} {i x : Int32} (hk : kd k = 14) (hi : i = nI q) (hq : q < 60) (hd : decode cc pc = .ok (.castore, 1)) (kk : G X g nL (upd2 M k q (vp_nar .char x)) (pc + 1) lv st) : G X g nL M pc lv (.int x :: .int i :: .ref (ad g k) :: st) := by
  obtain ⟨p, l, e, R, s, m, args, below, meth, c0, cells, slots, Q⟩ := X
  obtain ⟨⟨hx, hb, hml, hown, hts⟩, hW, hrf, hrl, hcl, hsl, hgb⟩ := F
  intro H locs ls hP hS hL
  have hkk : k < 228 := kd_lt hk (by decide)
  subst hi
  refine va_cast hx hb hW.2.2.1 hP (wWs_D hW M) hS k 1 (by rw [wWs_at g M hkk, wE_14 g M hk]) rfl (vp_in_nI hq (by decide)) hd (fun H1 locs1 hP1 hD1 hS1 => ?_)
  rw [nI_clamp (by omega)] at hP1
  rw [wWs_set g hkk (M' := upd2 M k q (vp_nar .char x)) (by rw [wE_14 g _ hk, upd2_row]) (fun a ha => wE_row g (upd2_ne M _ _ ha))] at hP1
  exact kk H1 locs1 ls hP1 hS1 hL

theorem g_alenC (F : FX X g cc nL own rf rl) {k : Nat} {v : Int32} (hk : kd k = 14) (hv : Int32.ofNat 60 = v) (hd : decode cc pc = .ok (.arraylength, 1)) (kk : G X g nL M (pc + 1) lv (.int v :: st)) : G X g nL M pc lv (.ref (ad g k) :: st) := by
  obtain ⟨p, l, e, R, s, m, args, below, meth, c0, cells, slots, Q⟩ := X
  obtain ⟨⟨hx, hb, hml, hown, hts⟩, hW, hrf, hrl, hcl, hsl, hgb⟩ := F
  intro H locs ls hP hS hL
  exact va_alen (x := (wA g M k 14).2) hx hb hW.2.2.1 hP k 1 (by rw [wWs_at g M (kd_lt hk (by decide)), wE_arr g M hk (by decide)]; rfl) rfl hv hd (kk H locs ls hP hS hL)
theorem g_alenK (F : FX X g cc nL own rf rl) {k : Nat} {v : Int32} (hk : kd k = 15) (hv : Int32.ofNat 6 = v) (hd : decode cc pc = .ok (.arraylength, 1)) (kk : G X g nL M (pc + 1) lv (.int v :: st)) : G X g nL M pc lv (.ref (ad g k) :: st) := by
  obtain ⟨p, l, e, R, s, m, args, below, meth, c0, cells, slots, Q⟩ := X
  obtain ⟨⟨hx, hb, hml, hown, hts⟩, hW, hrf, hrl, hcl, hsl, hgb⟩ := F
  intro H locs ls hP hS hL
  exact va_alen (x := (wA g M k 15).2) hx hb hW.2.2.1 hP k 2 (by rw [wWs_at g M (kd_lt hk (by decide)), wE_arr g M hk (by decide)]; rfl) rfl hv hd (kk H locs ls hP hS hL)
theorem g_alenG (F : FX X g cc nL own rf rl) {k : Nat} {v : Int32} (hk : kd k = 16) (hv : Int32.ofNat 4 = v) (hd : decode cc pc = .ok (.arraylength, 1)) (kk : G X g nL M (pc + 1) lv (.int v :: st)) : G X g nL M pc lv (.ref (ad g k) :: st) := by
  obtain ⟨p, l, e, R, s, m, args, below, meth, c0, cells, slots, Q⟩ := X
  obtain ⟨⟨hx, hb, hml, hown, hts⟩, hW, hrf, hrl, hcl, hsl, hgb⟩ := F
  intro H locs ls hP hS hL
  exact va_alen (x := (wA g M k 16).2) hx hb hW.2.2.1 hP k 3 (by rw [wWs_at g M (kd_lt hk (by decide)), wE_arr g M hk (by decide)]; rfl) rfl hv hd (kk H locs ls hP hS hL)
theorem g_alenS (F : FX X g cc nL own rf rl) {k : Nat} {v : Int32} (hk : kd k = 17) (hv : Int32.ofNat 5 = v) (hd : decode cc pc = .ok (.arraylength, 1)) (kk : G X g nL M (pc + 1) lv (.int v :: st)) : G X g nL M pc lv (.ref (ad g k) :: st) := by
  obtain ⟨p, l, e, R, s, m, args, below, meth, c0, cells, slots, Q⟩ := X
  obtain ⟨⟨hx, hb, hml, hown, hts⟩, hW, hrf, hrl, hcl, hsl, hgb⟩ := F
  intro H locs ls hP hS hL
  exact va_alen (x := (wA g M k 17).2) hx hb hW.2.2.1 hP k 4 (by rw [wWs_at g M (kd_lt hk (by decide)), wE_arr g M hk (by decide)]; rfl) rfl hv hd (kk H locs ls hP hS hL)
theorem g_alen (F : FX X g cc nL own rf rl) {k c n : Nat} {v : Int32} (hk : kd k = c) (hn : iarr c = some n) (hv : Int32.ofNat n = v) (hd : decode cc pc = .ok (.arraylength, 1)) (kk : G X g nL M (pc + 1) lv (.int v :: st)) : G X g nL M pc lv (.ref (ad g k) :: st) := by
  obtain ⟨p, l, e, R, s, m, args, below, meth, c0, cells, slots, Q⟩ := X
  obtain ⟨⟨hx, hb, hml, hown, hts⟩, hW, hrf, hrl, hcl, hsl, hgb⟩ := F
  intro H locs ls hP hS hL
  have hkk : k < 228 := kd_lt hk (by unfold iarr at hn; split at hn <;> simp_all)
  exact va_alen (x := (n, .inl (M k))) hx hb hW.2.2.1 hP k 0 (by rw [wWs_at g M hkk, wE_iarr g M hk hn]) rfl hv hd (kk H locs ls hP hS hL)
theorem g_aaldK (F : FX X g cc nL own rf rl) {k q r : Nat} {i : Int32} (hk : kd k = 15) (hi : i = nI q) (hq : q < 6) (hr : k + 2 + 4 * q = r) (hd : decode cc pc = .ok (.aaload, 1)) (kk : G X g nL M (pc + 1) lv (.ref (ad g r) :: st)) : G X g nL M pc lv (.int i :: .ref (ad g k) :: st) := by
  obtain ⟨p, l, e, R, s, m, args, below, meth, c0, cells, slots, Q⟩ := X
  obtain ⟨⟨hx, hb, hml, hown, hts⟩, hW, hrf, hrl, hcl, hsl, hgb⟩ := F
  intro H locs ls hP hS hL
  subst hi
  subst hr
  refine va_aldq (f := fun j => some (ad g (k + 2 + 4 * j))) hx hb hW.2.2.1 hP k 2 (by rw [wWs_at g M (kd_lt hk (by decide)), wE_arr g M hk (by decide)]; rfl) rfl (vp_in_nI hq (by decide)) hd ?_
  rw [nI_clamp (by omega)]
  exact kk H locs ls hP hS hL
theorem g_aaldG (F : FX X g cc nL own rf rl) {k q r : Nat} {i : Int32} (hk : kd k = 16) (hi : i = nI q) (hq : q < 4) (hr : k + 25 + q = r) (hd : decode cc pc = .ok (.aaload, 1)) (kk : G X g nL M (pc + 1) lv (.ref (ad g r) :: st)) : G X g nL M pc lv (.int i :: .ref (ad g k) :: st) := by
  obtain ⟨p, l, e, R, s, m, args, below, meth, c0, cells, slots, Q⟩ := X
  obtain ⟨⟨hx, hb, hml, hown, hts⟩, hW, hrf, hrl, hcl, hsl, hgb⟩ := F
  intro H locs ls hP hS hL
  subst hi
  subst hr
  refine va_aldq (f := fun j => some (ad g (k + 25 + j))) hx hb hW.2.2.1 hP k 3 (by rw [wWs_at g M (kd_lt hk (by decide)), wE_arr g M hk (by decide)]; rfl) rfl (vp_in_nI hq (by decide)) hd ?_
  rw [nI_clamp (by omega)]
  exact kk H locs ls hP hS hL
theorem g_aaldS (F : FX X g cc nL own rf rl) {k q r : Nat} {i : Int32} (hk : kd k = 17) (hi : i = nI q) (hq : q < 5) (hr : 65 + 31 * (M k q).toNatClampNeg = r) (hd : decode cc pc = .ok (.aaload, 1)) (kk : G X g nL M (pc + 1) lv (.ref (ad g r) :: st)) : G X g nL M pc lv (.int i :: .ref (ad g k) :: st) := by
  obtain ⟨p, l, e, R, s, m, args, below, meth, c0, cells, slots, Q⟩ := X
  obtain ⟨⟨hx, hb, hml, hown, hts⟩, hW, hrf, hrl, hcl, hsl, hgb⟩ := F
  intro H locs ls hP hS hL
  subst hi
  subst hr
  refine va_aldq (f := fun j => some (ad g (65 + 31 * (M k j).toNatClampNeg))) hx hb hW.2.2.1 hP k 4 (by rw [wWs_at g M (kd_lt hk (by decide)), wE_arr g M hk (by decide)]; rfl) rfl (vp_in_nI hq (by decide)) hd ?_
  rw [nI_clamp (by omega)]
  exact kk H locs ls hP hS hL
theorem g_aastS (F : FX X g cc nL own rf rl) {k q i0 : Nat} {i : Int32} (hk : kd k = 17) (hi : i = nI i0) (hi5 : i0 < 5) (hq : q < 5) (hd : decode cc pc = .ok (.aastore, 1)) (kk : G X g nL (upd2 M k i0 (nI q)) (pc + 1) lv st) : G X g nL M pc lv (.ref (ad g (65 + 31 * q)) :: .int i :: .ref (ad g k) :: st) := by
  obtain ⟨p, l, e, R, s, m, args, below, meth, c0, cells, slots, Q⟩ := X
  obtain ⟨⟨hx, hb, hml, hown, hts⟩, hW, hrf, hrl, hcl, hsl, hgb⟩ := F
  intro H locs ls hP hS hL
  have hkk : k < 228 := kd_lt hk (by decide)
  have hk3 : kd (65 + 31 * q) = 3 := by
    have : ∀ q, q < 5 → kd (65 + 31 * q) = 3 := by decide
    exact this q hq
  have hv : (wWs g M)[65 + 31 * q]? = some (ad g (65 + 31 * q), .inr (3, wF g M (65 + 31 * q) 0 (tpl 3))) := by rw [wWs_at g M (by omega), wE_obj g M hk3 (by decide)]
  subst hi
  refine va_astq (r := (RX3, TX3, 6)) hx hb hW.2.2.1 hP (wWs_D hW M) hS k 4 (65 + 31 * q) 3 (by rw [wWs_at g M hkk, wE_arr g M hk (by decide)]; rfl) rfl hv rfl (vp_in_nI hi5 (by decide)) hd (fun H1 locs1 hP1 hD1 hS1 => ?_)
  rw [nI_clamp (by omega)] at hP1
  rw [wWs_set g hkk (M' := upd2 M k i0 (nI q)) ?_ (fun a ha => wE_row g (upd2_ne M _ _ ha))] at hP1
  · exact kk H1 locs1 ls hP1 hS1 hL
  · rw [wE_arr g _ hk (by decide)]
    have hfun : (fun j => some (ad g (65 + 31 * (upd2 M k i0 (nI q) k j).toNatClampNeg))) = va_up (fun j => some (ad g (65 + 31 * (M k j).toNatClampNeg))) i0 (some (ad g (65 + 31 * q))) := by
      funext j
      rw [upd2_row]
      unfold upd va_up
      by_cases hj : j = i0
      · rw [if_pos hj, if_pos hj, nI_clamp (by omega)]
      · rw [if_neg hj, if_neg hj]
    exact congrArg (fun f : Nat → Option Nat => (Sum.inl (gC g 4, 5, Sum.inr (Sum.inr (Sum.inr (Sum.inr f)))) : va_E)) hfun
def updr (M : Mem) (k : Nat) (r : Nat → Int32) : Mem := fun a => if a = k then r else M a
theorem g_copy4 (F : FX X g cc nL own rf rl) {k0 k1 idx : Nat} (hk0 : kd k0 = 9) (hk1 : kd k1 = 9) (w : Cond.methodLink own idx arraycopyName ∈ lw_ws ∧ Cond.native arraycopyName ∈ lw_ws ∧ Cond.static arraycopyName ∈ lw_ws ∧ Cond.initialized "java/lang/System" ∈ lw_ws) (hfr : 1 ≤ rf) (hrl2 : (st.map fun v => v.category).sum + (nativeFrameWords "java/lang/System" "arraycopy" 5 + 11) ≤ rl) (hd : decode cc pc = .ok (.invokestatic idx, 3)) (kk : G X g nL (updr M k1 (va_cpy (M k0) (M k1) 0 0 4)) (pc + 3) lv st) : G X g nL M pc lv (.int 4 :: .int 0 :: .ref (ad g k1) :: .int 0 :: .ref (ad g k0) :: st) := by
  obtain ⟨p, l, e, R, s, m, args, below, meth, c0, cells, slots, Q⟩ := X
  obtain ⟨⟨hx, hb, hml, hown, hts⟩, hW, hrf, hrl, hcl, hsl, hgb⟩ := F
  intro H locs ls hP hS hL
  have hkk0 : k0 < 228 := kd_lt hk0 (by decide)
  have hkk1 : k1 < 228 := kd_lt hk1 (by decide)
  refine va_copyi (sp := 0) (dp := 0) (n := 4) hx hb (hml.trans hL.1.symm) hown (hts _ w.1) (hts _ w.2.1) (hts _ w.2.2.1) (hts _ w.2.2.2) hW.2.2.1 hP (wWs_D hW M) hS k0 k1 0 0 (by rw [wWs_at g M hkk0, wE_iarr g M hk0 rfl]) (by rw [wWs_at g M hkk1, wE_iarr g M hk1 rfl]) rfl rfl rfl (by decide) (by decide) (by decide) (by decide) (by decide) (fun _ _ => rfl) (by rw [hrf]; exact hfr) (by rw [hrl]; exact hrl2) hd (fun H1 locs1 hP1 hD1 hS1 => ?_)
  rw [wWs_set g hkk1 (M' := updr M k1 (va_cpy (M k0) (M k1) 0 0 4)) ?_ (fun a ha => wE_row g (by simp [updr, ha]))] at hP1
  · exact kk H1 locs1 ls hP1 hS1 hL
  · rw [wE_iarr g _ hk1 rfl]
    simp [updr]
theorem g_d2raw (F : FX X g cc nL own rf rl) {idx : Nat} {b : UInt64} (w : Cond.methodLink own idx ⟨"java/lang/Double", "doubleToRawLongBits", "(D)J"⟩ ∈ lw_ws ∧ Cond.native ⟨"java/lang/Double", "doubleToRawLongBits", "(D)J"⟩ ∈ lw_ws ∧ Cond.static ⟨"java/lang/Double", "doubleToRawLongBits", "(D)J"⟩ ∈ lw_ws ∧ Cond.initialized "java/lang/Double" ∈ lw_ws) (hfr : 1 ≤ rf) (hrl2 : (st.map fun v => v.category).sum + 15 ≤ rl) (hd : decode cc pc = .ok (.invokestatic idx, 3)) (kk : G X g nL M (pc + 3) lv (.long b.toInt64 :: st)) : G X g nL M pc lv (.double b :: st) := by
  obtain ⟨p, l, e, R, s, m, args, below, meth, c0, cells, slots, Q⟩ := X
  obtain ⟨⟨hx, hb, hml, hown, hts⟩, hW, hrf, hrl, hcl, hsl, hgb⟩ := F
  intro H locs ls hP hS hL
  exact vn_d2l hx hb (hml.trans hL.1.symm) hown (hts _ w.1) (hts _ w.2.1) (hts _ w.2.2.1) (hts _ w.2.2.2) (by rw [hrf]; exact hfr) (by rw [hrl]; exact hrl2) hd (kk H locs ls hP hS hL)
end GMEM
/-! contracts and calls -/
def wsM (y : MethodName) (cy : ByteArray) (nL : Nat) (ret : Option FieldType) : List Cond := .code y cy nL ret :: lw_ws
abbrev qM (g : Gm) (post : Option Value → Mem → Prop) : State → Outcome → State → Prop := fun st o t => (∃ (v : Option Value) (M' : Mem), o = .returned v ∧ post v M' ∧ hM g M' t.heap) ∧ va_F (gA g) st t
/-- THE CONTRACT of a method: from the memory M, with the arguments av, it returns v and leaves M', and post v M' holds -/
def Cn (l : Launch) (y : MethodName) (cy : ByteArray) (nL : Nat) (ret : Option FieldType) (rf rl : Nat) (g : Gm) (av : List Value) (M : Mem) (post : Option Value → Mem → Prop) : Prop :=
  Met l y (wsM y cy nL ret) ({ frames := rf, cells := 0, slots := 0, locals := rl }) (va_Pc av (fun U => wOK g U ∧ hM g M U.heap ∧ gB g ≤ U.heap.size)) (fun _ st o t => qM g post st o t) 0 0 (gA g)
theorem ws_good {ws : List Cond} (h : ∀ w ∈ ws, w ∈ lw_ws) : GoodIn lw_ws ws := fun w hw => ⟨h w hw, good_of_word (List.mem_filter.mp (h w hw)).2⟩
theorem nest_kind : ∀ w ∈ nestW, (match w with | .fieldLinkNest .. => true | .methodLinkNest .. => true | _ => false) = true := by decide +kernel
theorem nest_warm {s U : State} (hW : s.WarmedH U.vm) (h : ∀ w ∈ nestW, va_Nw w s) : ∀ w ∈ nestW, va_Nw w U := by
  intro w hw
  have h1 := nest_kind w hw
  have h2 := h w hw
  cases w <;> first | exact va_Nw.warmF hW h2 | exact va_Nw.warmM hW h2 | cases h1
theorem wOK.warm {g : Gm} {s U : State} (hW : s.WarmedH U.vm) (h : wOK g s) : wOK g U := ⟨h.1, h.2.1, va_K.moved hW.alike h.2.2.1, nest_warm hW h.2.2.2⟩
theorem cn_blind {g : Gm} {av : List Value} {M : Mem} : FrameBlind (va_Pc av (fun U => wOK g U ∧ hM g M U.heap ∧ gB g ≤ U.heap.size)) := by
  intro a U fr mk q
  obtain ⟨q0, ⟨q1, q2, q3, q4⟩, q5⟩ := q
  refine ⟨q0, ⟨q1, q2, va_K.moved (u := U) (U := U.calling fr mk a) (Vm.Alike.refl U.vm) q3, fun w hw => ?_⟩, q5⟩
  have h1 := nest_kind w hw
  refine va_Nw.same (u := U) ?_ rfl (q4 w hw)
  cases w <;> first | rfl | cases h1
theorem cn_call {p : Program} {l : Launch} {e : Env} {R : Room} {s : State} {m : MethodId} {args : Array Value} {below : List Frame} {meth : Method} {c : Code} {H : Heap} {locs : List Loc} {cells slots : Nat} {Q : State → Prop} {g : Gm} {pc : Nat} {ls : Array Slot} {rest st0 : List Value} {post : Option Value → Mem → Prop}
    (hr : va_Run p l e R s m args below meth c H locs cells slots 0 0 (F0 m pc ls st0) rest (fun st o t => qM g post st o t) (gA g)) (hS : va_S (gA g) s.heap H locs)
    (kk : ∀ (v : Option Value) (M' : Mem), post v M' → ∀ (H1 : Heap) (locs1 : List Loc), hM g M' H1 → va_S (gA g) s.heap H1 locs1 → W p l e R s m args below meth c H1 locs1 cells slots Q (F0 m (pc + 3) ls (v.toList ++ rest))) : W p l e R s m args below meth c H locs cells slots Q (F0 m pc ls st0) := by
  intro T hT X
  obtain ⟨v, st₀, t, T', L, h0, X', hL, e1, e2, ⟨⟨v', M', hv, hp, hM'⟩, hz, hk⟩, st⟩ := hr T hT X
  cases hv
  rw [h0] at hz hk
  obtain ⟨t2, a1, b1⟩ := kk v M' hp T'.heap (locs ++ L) (by rw [e1]; exact hM')
    ⟨Nat.le_trans hS.1 (by rw [e1]; exact hz), fun q h1 h2 => by rw [e1, hk q (Nat.lt_of_lt_of_le h1 hS.1) h2]; exact hS.2.1 q h1 h2, fun q hq => by
      rcases List.mem_append.mp hq with h | h
      · exact hS.2.2 q h
      · exact hL q h⟩ T' rfl X'
  exact ⟨t2, st t2 a1, b1⟩
abbrev okName (y : MethodName) (n : Nat) : Prop := y.cls ≠ "java/lang/invoke/MethodHandle" ∧ y.cls ≠ "java/lang/invoke/VarHandle" ∧ (parseMethodDescriptor y.desc).map (fun d => d.parameters.length) = some n
/-- a call's words: virtual, static, of a constructor; static and of a constructor between nest mates -/
def CV (own : String) (idx : Nat) (C : String) (y : MethodName) (cy : ByteArray) (nLy : Nat) (ret : Option FieldType) (n : Nat) : Prop := Cond.methodLink own idx y ∈ lw_ws ∧ Cond.instanceMethod y ∈ lw_ws ∧ Cond.selects C y y ∈ lw_ws ∧ Cond.initialized C ∈ lw_ws ∧ Cond.code y cy nLy ret ∈ lw_ws ∧ y.cls = C ∧ okName y n
def CS (own : String) (idx : Nat) (y : MethodName) (cy : ByteArray) (nLy : Nat) (ret : Option FieldType) (n : Nat) : Prop := Cond.methodLink own idx y ∈ lw_ws ∧ Cond.static y ∈ lw_ws ∧ Cond.initialized y.cls ∈ lw_ws ∧ Cond.code y cy nLy ret ∈ lw_ws ∧ okName y n
def CSN (own : String) (idx : Nat) (y : MethodName) (cy : ByteArray) (nLy : Nat) (ret : Option FieldType) (n : Nat) : Prop := Cond.methodLinkNest own idx y "RenewalClocks" ∈ nestW ∧ Cond.static y ∈ lw_ws ∧ Cond.initialized y.cls ∈ lw_ws ∧ Cond.code y cy nLy ret ∈ lw_ws ∧ okName y n
theorem wsM_in {y : MethodName} {cy : ByteArray} {nLy : Nat} {ret : Option FieldType} (h : Cond.code y cy nLy ret ∈ lw_ws) : ∀ w ∈ wsM y cy nLy ret, w ∈ lw_ws := fun w hw => (List.mem_cons.mp hw).elim (fun e => e ▸ h) id
section GCALL
variable {X : XT} {g : Gm} {cc : ByteArray} {nL : Nat} {own : String} {rf rl : Nat} {M : Mem} {pc : Nat} {lv : List (Option Value)} {st : List Value}
variable {y : MethodName} {cy : ByteArray} {nLy rf2 rl2 n idx : Nat} {ret : Option FieldType} {post : Option Value → Mem → Prop} {As rest : List Value}
theorem g_callV (F : FX X g cc nL own rf rl) {k ci : Nat} {C : String} {T : u_T} {N : Nat} (w : CV own idx C y cy nLy ret n) (hk : kd k = ci) (hC : vwCl[ci]? = some (C, T, N)) (hc9 : ci < 9) (hn : As.length = n) (hst : st = As.reverse ++ .ref (ad g k) :: rest) (hcat : (rest.map fun v => v.category).sum ≤ 8) (hR : rf2 + 1 ≤ rf ∧ 8 + (nLy + 11) + rl2 ≤ rl) (hd : decode cc pc = .ok (.invokevirtual idx, 3))
    (hM2 : Cn X.2.1 y cy nLy ret rf2 rl2 g (.ref (ad g k) :: As) M post) (kk : ∀ (v : Option Value) (M' : Mem), post v M' → G X g nL M' (pc + 3) lv (v.toList ++ rest)) : G X g nL M pc lv st := by
  obtain ⟨p, l, e, R, s, m, args, below, meth, c, cells, slots, Q⟩ := X
  obtain ⟨⟨hx, hb, hml, hown, hts⟩, hW, hrf, hrl, hcl, hsl, hgb⟩ := F
  intro H locs ls hP hS hL
  obtain ⟨w1, w2, w3, w4, w5, w6, w7⟩ := w
  have hkk : k < 228 := kd_lt hk (by omega)
  have he : (wWs g M)[k]? = some (ad g k, .inr (ci, wF g M k 0 (tpl ci))) := by rw [wWs_at g M hkk, wE_obj g M hk hc9]
  refine cn_call (va_runV (C := C) (ws := wsM y cy nLy ret) (rm := { frames := rf2, cells := 0, slots := 0, locals := rl2 }) (As := As) (rest := rest) ⟨hx, hb, hml, hown, hts⟩ hM2 (cwV n hts (ws_good (fun x hx => ?_)) rfl rfl rfl ⟨w6, w7⟩ ?_) ⟨cn_blind, va_recv hW.2.2.1 hP (q0 := k) hC he, fun U hU hWU => ⟨rfl, hW.warm hWU, by rw [hU]; exact hP, by rw [hU]; exact Nat.le_trans hgb hS.1⟩⟩ rfl hn hL.1 hst (lv_room hcat) hd ⟨hcl, hsl⟩) hS (fun v M' hp H1 locs1 hP1 hS1 => kk v M' hp H1 locs1 ls hP1 hS1 hL)
  · rcases List.mem_append.mp hx with h | h
    · simp only [List.mem_cons, List.not_mem_nil, or_false] at h
      rcases h with rfl | rfl | rfl | rfl
      · exact w1
      · exact w2
      · exact w3
      · exact w4
    · exact wsM_in w5 x h
  · rw [hrf, hrl]; exact hR
theorem g_callS (F : FX X g cc nL own rf rl) (w : CS own idx y cy nLy ret n) (hn : As.length = n) (hst : st = As.reverse ++ rest) (hcat : (rest.map fun v => v.category).sum ≤ 8) (hR : rf2 + 1 ≤ rf ∧ 8 + (nLy + 11) + rl2 ≤ rl) (hd : decode cc pc = .ok (.invokestatic idx, 3))
    (hM2 : Cn X.2.1 y cy nLy ret rf2 rl2 g As M post) (kk : ∀ (v : Option Value) (M' : Mem), post v M' → G X g nL M' (pc + 3) lv (v.toList ++ rest)) : G X g nL M pc lv st := by
  obtain ⟨p, l, e, R, s, m, args, below, meth, c, cells, slots, Q⟩ := X
  obtain ⟨⟨hx, hb, hml, hown, hts⟩, hW, hrf, hrl, hcl, hsl, hgb⟩ := F
  intro H locs ls hP hS hL
  obtain ⟨w1, w2, w4, w5, w7⟩ := w
  refine cn_call (va_runS (ws := wsM y cy nLy ret) (rm := { frames := rf2, cells := 0, slots := 0, locals := rl2 }) (As := As) (rest := rest) ⟨hx, hb, hml, hown, hts⟩ hM2 (va_cwS n hts (ws_good (fun x hx => ?_)) rfl rfl rfl w7 ?_) ⟨cn_blind, fun U hU hWU => ⟨rfl, hW.warm hWU, by rw [hU]; exact hP, by rw [hU]; exact Nat.le_trans hgb hS.1⟩⟩ rfl hn hL.1 hst (lv_room hcat) hd ⟨hcl, hsl⟩) hS (fun v M' hp H1 locs1 hP1 hS1 => kk v M' hp H1 locs1 ls hP1 hS1 hL)
  · rcases List.mem_append.mp hx with h | h
    · simp only [List.mem_cons, List.not_mem_nil, or_false] at h
      rcases h with rfl | rfl | rfl
      · exact w1
      · exact w2
      · exact w4
    · exact wsM_in w5 x h
  · rw [hrf, hrl]; exact hR
theorem g_callSN (F : FX X g cc nL own rf rl) (w : CSN own idx y cy nLy ret n) (hn : As.length = n) (hst : st = As.reverse ++ rest) (hcat : (rest.map fun v => v.category).sum ≤ 8) (hR : rf2 + 1 ≤ rf ∧ 8 + (nLy + 11) + rl2 ≤ rl) (hd : decode cc pc = .ok (.invokestatic idx, 3))
    (hM2 : Cn X.2.1 y cy nLy ret rf2 rl2 g As M post) (kk : ∀ (v : Option Value) (M' : Mem), post v M' → G X g nL M' (pc + 3) lv (v.toList ++ rest)) : G X g nL M pc lv st := by
  obtain ⟨p, l, e, R, s, m, args, below, meth, c, cells, slots, Q⟩ := X
  obtain ⟨⟨hx, hb, hml, hown, hts⟩, hW, hrf, hrl, hcl, hsl, hgb⟩ := F
  intro H locs ls hP hS hL
  obtain ⟨w1, w2, w4, w5, w7⟩ := w
  refine cn_call (va_runSN (host := "RenewalClocks") (ws := wsM y cy nLy ret) (rm := { frames := rf2, cells := 0, slots := 0, locals := rl2 }) (As := As) (rest := rest) ⟨hx, hb, hml, hown, hts⟩ hM2 ⟨va_cnB n hts (ws_good (wsM_in w5)) rfl rfl rfl (hW.2.2.2 _ w1) (hts _ w4) w7 ?_, hts _ w2, trivial⟩ ⟨cn_blind, fun U hU hWU => ⟨rfl, hW.warm hWU, by rw [hU]; exact hP, by rw [hU]; exact Nat.le_trans hgb hS.1⟩⟩ rfl hn hL.1 hst (lv_room hcat) hd ⟨hcl, hsl⟩) hS (fun v M' hp H1 locs1 hP1 hS1 => kk v M' hp H1 locs1 ls hP1 hS1 hL)
  rw [hrf, hrl]; exact hR
end GCALL
/-! ends -/
def RX (X : XT) (g : Gm) (ret : Option FieldType) (post : Option Value → Mem → Prop) : Prop := match X with
  | (_, _, _, _, s, _, args, below, meth, _, cells, slots, Q) => meth.sig.returnType = ret ∧ meth.locks = false ∧ cells = 0 ∧ slots = 0 ∧ Q = MQ below (fun _ st o t => qM g post st o t) args s 0 0 (gA g)
section GRET
variable {X : XT} {g : Gm} {cc : ByteArray} {nL : Nat} {own : String} {rf rl : Nat} {M : Mem} {pc : Nat} {lv : List (Option Value)} {post : Option Value → Mem → Prop}

theorem g_iret (F : FX X g cc nL own rf rl) {v : Int32} (r : RX X g (some .int) post) (hd : decode cc pc = .ok (.ireturn, 1)) (h : post (some (.int v)) M) : G X g nL M pc lv [.int v] := by
  obtain ⟨p, l, e, R, s, m, args, below, meth, c, cells, slots, Q⟩ := X
  obtain ⟨⟨hx, hb, hml, hown, hts⟩, hW, hrf, hrl, hcl, hsl, hgb⟩ := F
  intro H locs ls hP hS hL
  obtain ⟨hr, hlk, rfl, rfl, rfl⟩ := r
  exact W.iret hx hb hr (fun t ht hWt => ⟨⟨_, M, rfl, h, by rw [ht]; exact hP⟩, hS.F ht⟩) hS.2.2 hd hlk
theorem g_zret (F : FX X g cc nL own rf rl) {v : Int32} {ty : FieldType} (hn : narrow ty (.int v) = .int v) (r : RX X g (some ty) post) (hd : decode cc pc = .ok (.ireturn, 1)) (h : post (some (.int v)) M) : G X g nL M pc lv [.int v] := by
  obtain ⟨p, l, e, R, s, m, args, below, meth, c, cells, slots, Q⟩ := X
  obtain ⟨⟨hx, hb, hml, hown, hts⟩, hW, hrf, hrl, hcl, hsl, hgb⟩ := F
  intro H locs ls hP hS hL
  obtain ⟨hr, hlk, rfl, rfl, rfl⟩ := r
  exact W.zret hx hb hr hn (fun t ht hWt => ⟨⟨_, M, rfl, h, by rw [ht]; exact hP⟩, hS.F ht⟩) hS.2.2 hd hlk
theorem g_vret (F : FX X g cc nL own rf rl)  (r : RX X g (none) post) (hd : decode cc pc = .ok (.return_, 1)) (h : post none M) : G X g nL M pc lv [] := by
  obtain ⟨p, l, e, R, s, m, args, below, meth, c, cells, slots, Q⟩ := X
  obtain ⟨⟨hx, hb, hml, hown, hts⟩, hW, hrf, hrl, hcl, hsl, hgb⟩ := F
  intro H locs ls hP hS hL
  obtain ⟨hr, hlk, rfl, rfl, rfl⟩ := r
  exact W.vret hx hb hr (fun t ht hWt => ⟨⟨_, M, rfl, h, by rw [ht]; exact hP⟩, hS.F ht⟩) hS.2.2 hd hlk
theorem g_lret (F : FX X g cc nL own rf rl) {v : Int64} (r : RX X g (some .long) post) (hd : decode cc pc = .ok (.lreturn, 1)) (h : post (some (.long v)) M) : G X g nL M pc lv [.long v] := by
  obtain ⟨p, l, e, R, s, m, args, below, meth, c, cells, slots, Q⟩ := X
  obtain ⟨⟨hx, hb, hml, hown, hts⟩, hW, hrf, hrl, hcl, hsl, hgb⟩ := F
  intro H locs ls hP hS hL
  obtain ⟨hr, hlk, rfl, rfl, rfl⟩ := r
  exact W.lret hx hb hr (fun t ht hWt => ⟨⟨_, M, rfl, h, by rw [ht]; exact hP⟩, hS.F ht⟩) hS.2.2 hd hlk
theorem g_dret (F : FX X g cc nL own rf rl) {v : UInt64} (r : RX X g (some .double) post) (hd : decode cc pc = .ok (.dreturn, 1)) (h : post (some (.double v)) M) : G X g nL M pc lv [.double v] := by
  obtain ⟨p, l, e, R, s, m, args, below, meth, c, cells, slots, Q⟩ := X
  obtain ⟨⟨hx, hb, hml, hown, hts⟩, hW, hrf, hrl, hcl, hsl, hgb⟩ := F
  intro H locs ls hP hS hL
  obtain ⟨hr, hlk, rfl, rfl, rfl⟩ := r
  exact W.dret hx hb hr (fun t ht hWt => ⟨⟨_, M, rfl, h, by rw [ht]; exact hP⟩, hS.F ht⟩) hS.2.2 hd hlk
theorem g_aret (F : FX X g cc nL own rf rl) {v : Nat} {C : String} (r : RX X g (some (.object C)) post) (hd : decode cc pc = .ok (.areturn, 1)) (h : post (some (.ref v)) M) : G X g nL M pc lv [.ref v] := by
  obtain ⟨p, l, e, R, s, m, args, below, meth, c, cells, slots, Q⟩ := X
  obtain ⟨⟨hx, hb, hml, hown, hts⟩, hW, hrf, hrl, hcl, hsl, hgb⟩ := F
  intro H locs ls hP hS hL
  obtain ⟨hr, hlk, rfl, rfl, rfl⟩ := r
  exact W.aret hx hb hr (Or.inl ⟨C, rfl⟩) (Or.inr ⟨v, rfl⟩) (fun t ht hWt => ⟨⟨_, M, rfl, h, by rw [ht]; exact hP⟩, hS.F ht⟩) hS.2.2 hd hlk
theorem g_aretN (F : FX X g cc nL own rf rl) {C : String} (r : RX X g (some (.object C)) post) (hd : decode cc pc = .ok (.areturn, 1)) (h : post (some .null) M) : G X g nL M pc lv [.null] := by
  obtain ⟨p, l, e, R, s, m, args, below, meth, c, cells, slots, Q⟩ := X
  obtain ⟨⟨hx, hb, hml, hown, hts⟩, hW, hrf, hrl, hcl, hsl, hgb⟩ := F
  intro H locs ls hP hS hL
  obtain ⟨hr, hlk, rfl, rfl, rfl⟩ := r
  exact W.aret hx hb hr (Or.inl ⟨C, rfl⟩) (Or.inl rfl) (fun t ht hWt => ⟨⟨_, M, rfl, h, by rw [ht]; exact hP⟩, hS.F ht⟩) hS.2.2 hd hlk
end GRET
def lvE : List Value → List (Option Value)
  | [] => []
  | v :: vs => if v.category = 2 then some v :: none :: lvE vs else some v :: lvE vs
theorem lvE_sound (kp : Nat) : ∀ (av : List Value) (j0 i : Nat) (v : Value), lg (lvE av ++ List.replicate kp none) i = some v → (j0 + i, v) ∈ lv_args j0 av := by
  intro av
  induction av with
  | nil =>
    intro j0 i v h
    exfalso
    have : ∀ (n i : Nat), lg (List.replicate n none) i = none := by
      intro n
      induction n with
      | zero => intro i; rfl
      | succ n ih => intro i; cases i with
        | zero => rfl
        | succ i => exact ih i
    simp [lvE, this] at h
  | cons a av ih =>
    intro j0 i v h
    unfold lvE at h
    by_cases hc : a.category = 2
    · rw [if_pos hc] at h
      unfold lv_args
      rw [if_pos hc]
      match i, h with
      | 0, h => simp [lg] at h; subst h; exact List.mem_cons_self
      | 1, h => simp [lg] at h
      | i + 2, h =>
        have := ih (j0 + 2) i v (by simpa [lg] using h)
        rw [show j0 + (i + 2) = j0 + 2 + i by omega]
        exact List.mem_cons_of_mem _ this
    · rw [if_neg hc] at h
      unfold lv_args
      rw [if_neg hc]
      match i, h with
      | 0, h => simp [lg] at h; subst h; exact List.mem_cons_self
      | i + 1, h =>
        have := ih (j0 + 1) i v (by simpa [lg] using h)
        rw [show j0 + (i + 1) = j0 + 1 + i by omega]
        exact List.mem_cons_of_mem _ this
/-- a contract out of a walk from pc 0 -/
theorem Cn.intro {l : Launch} {y : MethodName} {cy : ByteArray} {nL : Nat} {ret : Option FieldType} {rf rl : Nat} {g : Gm} {av : List Value} {M : Mem} {post : Option Value → Mem → Prop} {lv0 : List (Option Value)} (kp : Nat) (hy : plainName y.cls = true) (hlen : (lg_sl av).length ≤ nL) (hlv : lvE av ++ List.replicate kp none = lv0)
    (body : ∀ X : XT, FX X g cy nL y.cls rf rl → RX X g ret post → G X g nL M 0 lv0 []) : Cn l y cy nL ret rf rl g av M post := by
  refine Met.ofW (ws := wsM y cy nL ret) (ws' := lw_ws) (cc := cy) (maxL := nL) (ret := ret) hy rfl ?_
  intro p e s m args below meth c s₁ B hml hv
  obtain ⟨rfl, hW, hP, hgb⟩ := hv
  have hts := atoms_spec (ws := wsM y cy nL ret) B.pre
  have hl := lv_entry av (n := nL) hlen
  rw [lg_entry_eq]
  refine body (p, l, e, _, s, m, av.toArray, below, meth, c, 0, 0, _) ⟨⟨B.exec, B.bytes, hml, findClass_of_methodNamed B.named, fun w hw => hts w (List.mem_cons_of_mem _ hw)⟩, hW, rfl, rfl, Nat.zero_le _, Nat.zero_le _, hgb⟩ ⟨B.returns, B.notSynchronized, rfl, rfl, rfl⟩ s.heap [] _ hP va_S.rf (lhas.of hl (fun i v hi => ?_))
  rw [← hlv] at hi
  have := lvE_sound kp av 0 i v hi
  rwa [Nat.zero_add] at this
/-- a weaker post -/
theorem Cn.weaken {l : Launch} {y : MethodName} {cy : ByteArray} {nL : Nat} {ret : Option FieldType} {rf rl : Nat} {g : Gm} {av : List Value} {M : Mem} {p1 p2 : Option Value → Mem → Prop} (h : ∀ v M', p1 v M' → p2 v M') (hc : Cn l y cy nL ret rf rl g av M p1) : Cn l y cy nL ret rf rl g av M p2 := by
  intro p e ha hc1 hk s m args below hf happ hp ht
  obtain ⟨k, o, h1, h2, h3, ⟨⟨⟨v, M', q1, q2, q3⟩, q4⟩, L, h5⟩⟩ := hc p e ha hc1 hk s m args below hf happ hp ht
  exact ⟨k, o, h1, h2, h3, ⟨⟨⟨v, M', q1, h v M' q2, q3⟩, q4⟩, L, h5⟩⟩
end
section
/-! bundles of words: a field's link, a call's link (by the class that links and the number in its pool) -/
theorem fl_X7_112 : FL RX7 112 2 0 false .int := ⟨RX2, TX2, 4, tyX2, rfl, by decide, uin_X2, by decide, tyX2_ok, nmX2, Or.inr wf_X7_112, rfl, rfl⟩
theorem fl_X7_117 : FL RX7 117 2 1 false .int := ⟨RX2, TX2, 4, tyX2, rfl, by decide, uin_X2, by decide, tyX2_ok, nmX2, Or.inr wf_X7_117, rfl, rfl⟩
theorem fl_X7_12 : FL RX7 12 7 0 true (.object "RenewalClocks$Hall") := ⟨RX7, TX7, 5, tyX7, rfl, by decide, uin_X7, by decide, tyX7_ok, nmX7, Or.inl wf_X7_12, rfl, rfl⟩
theorem fl_X7_123 : FL RX7 123 2 2 false .int := ⟨RX2, TX2, 4, tyX2, rfl, by decide, uin_X2, by decide, tyX2_ok, nmX2, Or.inr wf_X7_123, rfl, rfl⟩
theorem fl_X7_125 : FL RX7 125 2 3 false .int := ⟨RX2, TX2, 4, tyX2, rfl, by decide, uin_X2, by decide, tyX2_ok, nmX2, Or.inr wf_X7_125, rfl, rfl⟩
theorem fl_X7_155 : FL RX7 155 3 1 false .int := ⟨RX3, TX3, 6, tyX3, rfl, by decide, uin_X3, by decide, tyX3_ok, nmX3, Or.inr wf_X7_155, rfl, rfl⟩
theorem fl_X7_158 : FL RX7 158 3 3 false .int := ⟨RX3, TX3, 6, tyX3, rfl, by decide, uin_X3, by decide, tyX3_ok, nmX3, Or.inr wf_X7_158, rfl, rfl⟩
theorem fl_X7_16 : FL RX7 16 7 1 true (.object "RenewalClocks$Hall") := ⟨RX7, TX7, 5, tyX7, rfl, by decide, uin_X7, by decide, tyX7_ok, nmX7, Or.inl wf_X7_16, rfl, rfl⟩
theorem fl_X7_161 : FL RX7 161 3 4 false .int := ⟨RX3, TX3, 6, tyX3, rfl, by decide, uin_X3, by decide, tyX3_ok, nmX3, Or.inr wf_X7_161, rfl, rfl⟩
theorem fl_X7_164 : FL RX7 164 3 5 false .int := ⟨RX3, TX3, 6, tyX3, rfl, by decide, uin_X3, by decide, tyX3_ok, nmX3, Or.inr wf_X7_164, rfl, rfl⟩
theorem fl_X7_173 : FL RX7 173 4 1 false .int := ⟨RX4, TX4, 2, tyX4, rfl, by decide, uin_X4, by decide, tyX4_ok, nmX4, Or.inr wf_X7_173, rfl, rfl⟩
theorem fl_X7_176 : FL RX7 176 6 1 false .int := ⟨RX6, TX6, 2, tyX6, rfl, by decide, uin_X6, by decide, tyX6_ok, nmX6, Or.inr wf_X7_176, rfl, rfl⟩
theorem fl_X7_22 : FL RX7 22 7 2 true (.object "RenewalClocks$History") := ⟨RX7, TX7, 5, tyX7, rfl, by decide, uin_X7, by decide, tyX7_ok, nmX7, Or.inl wf_X7_22, rfl, rfl⟩
theorem fl_X7_29 : FL RX7 29 7 3 true (.object "RenewalClocks$Text") := ⟨RX7, TX7, 5, tyX7, rfl, by decide, uin_X7, by decide, tyX7_ok, nmX7, Or.inl wf_X7_29, rfl, rfl⟩
theorem fl_X7_38 : FL RX7 38 7 4 true (.object "RenewalClocks$Orders") := ⟨RX7, TX7, 5, tyX7, rfl, by decide, uin_X7, by decide, tyX7_ok, nmX7, Or.inl wf_X7_38, rfl, rfl⟩
theorem fl_X0_18 : FL RX0 18 0 8 true (.object "RenewalClocks$Gaps") := ⟨RX0, TX0, 10, tyX0, rfl, by decide, uin_X0, by decide, tyX0_ok, nmX0, Or.inl wf_X0_18, rfl, rfl⟩
theorem fl_X0_22 : FL RX0 22 0 9 true (.object "RenewalClocks$Gaps") := ⟨RX0, TX0, 10, tyX0, rfl, by decide, uin_X0, by decide, tyX0_ok, nmX0, Or.inl wf_X0_22, rfl, rfl⟩
theorem fl_X0_25 : FL RX0 25 0 0 false .int := ⟨RX0, TX0, 10, tyX0, rfl, by decide, uin_X0, by decide, tyX0_ok, nmX0, Or.inl wf_X0_25, rfl, rfl⟩
theorem fl_X0_29 : FL RX0 29 0 2 false .int := ⟨RX0, TX0, 10, tyX0, rfl, by decide, uin_X0, by decide, tyX0_ok, nmX0, Or.inl wf_X0_29, rfl, rfl⟩
theorem fl_X0_32 : FL RX0 32 0 3 false .int := ⟨RX0, TX0, 10, tyX0, rfl, by decide, uin_X0, by decide, tyX0_ok, nmX0, Or.inl wf_X0_32, rfl, rfl⟩
theorem fl_X0_35 : FL RX0 35 0 4 false .int := ⟨RX0, TX0, 10, tyX0, rfl, by decide, uin_X0, by decide, tyX0_ok, nmX0, Or.inl wf_X0_35, rfl, rfl⟩
theorem fl_X0_38 : FL RX0 38 0 5 false .int := ⟨RX0, TX0, 10, tyX0, rfl, by decide, uin_X0, by decide, tyX0_ok, nmX0, Or.inl wf_X0_38, rfl, rfl⟩
theorem fl_X0_41 : FL RX0 41 0 6 false .int := ⟨RX0, TX0, 10, tyX0, rfl, by decide, uin_X0, by decide, tyX0_ok, nmX0, Or.inl wf_X0_41, rfl, rfl⟩
theorem fl_X0_44 : FL RX0 44 0 7 false .int := ⟨RX0, TX0, 10, tyX0, rfl, by decide, uin_X0, by decide, tyX0_ok, nmX0, Or.inl wf_X0_44, rfl, rfl⟩
theorem fl_X0_67 : FL RX0 67 1 0 false .int := ⟨RX1, TX1, 5, tyX1, rfl, by decide, uin_X1, by decide, tyX1_ok, nmX1, Or.inr wf_X0_67, rfl, rfl⟩
theorem fl_X0_74 : FL RX0 74 1 1 false .int := ⟨RX1, TX1, 5, tyX1, rfl, by decide, uin_X1, by decide, tyX1_ok, nmX1, Or.inr wf_X0_74, rfl, rfl⟩
theorem fl_X0_78 : FL RX0 78 1 4 false .int := ⟨RX1, TX1, 5, tyX1, rfl, by decide, uin_X1, by decide, tyX1_ok, nmX1, Or.inr wf_X0_78, rfl, rfl⟩
theorem fl_X0_9 : FL RX0 9 0 1 true (.array .int) := ⟨RX0, TX0, 10, tyX0, rfl, by decide, uin_X0, by decide, tyX0_ok, nmX0, Or.inl wf_X0_9, rfl, rfl⟩
theorem fl_X1_13 : FL RX1 13 1 1 false .int := ⟨RX1, TX1, 5, tyX1, rfl, by decide, uin_X1, by decide, tyX1_ok, nmX1, Or.inl wf_X1_13, rfl, rfl⟩
theorem fl_X1_16 : FL RX1 16 1 2 false .int := ⟨RX1, TX1, 5, tyX1, rfl, by decide, uin_X1, by decide, tyX1_ok, nmX1, Or.inl wf_X1_16, rfl, rfl⟩
theorem fl_X1_19 : FL RX1 19 1 3 false .int := ⟨RX1, TX1, 5, tyX1, rfl, by decide, uin_X1, by decide, tyX1_ok, nmX1, Or.inl wf_X1_19, rfl, rfl⟩
theorem fl_X1_22 : FL RX1 22 1 4 false .int := ⟨RX1, TX1, 5, tyX1, rfl, by decide, uin_X1, by decide, tyX1_ok, nmX1, Or.inl wf_X1_22, rfl, rfl⟩
theorem fl_X1_7 : FL RX1 7 1 0 false .int := ⟨RX1, TX1, 5, tyX1, rfl, by decide, uin_X1, by decide, tyX1_ok, nmX1, Or.inl wf_X1_7, rfl, rfl⟩
theorem fl_X2_13 : FL RX2 13 2 1 false .int := ⟨RX2, TX2, 4, tyX2, rfl, by decide, uin_X2, by decide, tyX2_ok, nmX2, Or.inl wf_X2_13, rfl, rfl⟩
theorem fl_X2_16 : FL RX2 16 2 2 false .int := ⟨RX2, TX2, 4, tyX2, rfl, by decide, uin_X2, by decide, tyX2_ok, nmX2, Or.inl wf_X2_16, rfl, rfl⟩
theorem fl_X2_19 : FL RX2 19 2 3 false .int := ⟨RX2, TX2, 4, tyX2, rfl, by decide, uin_X2, by decide, tyX2_ok, nmX2, Or.inl wf_X2_19, rfl, rfl⟩
theorem fl_X2_7 : FL RX2 7 2 0 false .int := ⟨RX2, TX2, 4, tyX2, rfl, by decide, uin_X2, by decide, tyX2_ok, nmX2, Or.inl wf_X2_7, rfl, rfl⟩
theorem fl_X3_107 : FL RX3 107 0 5 false .int := ⟨RX0, TX0, 10, tyX0, rfl, by decide, uin_X0, by decide, tyX0_ok, nmX0, Or.inr wf_X3_107, rfl, rfl⟩
theorem fl_X3_11 : FL RX3 11 3 0 true (.array (.object "RenewalClocks$Clock")) := ⟨RX3, TX3, 6, tyX3, rfl, by decide, uin_X3, by decide, tyX3_ok, nmX3, Or.inl wf_X3_11, rfl, rfl⟩
theorem fl_X3_110 : FL RX3 110 0 6 false .int := ⟨RX0, TX0, 10, tyX0, rfl, by decide, uin_X0, by decide, tyX0_ok, nmX0, Or.inr wf_X3_110, rfl, rfl⟩
theorem fl_X3_113 : FL RX3 113 0 4 false .int := ⟨RX0, TX0, 10, tyX0, rfl, by decide, uin_X0, by decide, tyX0_ok, nmX0, Or.inr wf_X3_113, rfl, rfl⟩
theorem fl_X3_126 : FL RX3 126 2 0 false .int := ⟨RX2, TX2, 4, tyX2, rfl, by decide, uin_X2, by decide, tyX2_ok, nmX2, Or.inr wf_X3_126, rfl, rfl⟩
theorem fl_X3_134 : FL RX3 134 2 1 false .int := ⟨RX2, TX2, 4, tyX2, rfl, by decide, uin_X2, by decide, tyX2_ok, nmX2, Or.inr wf_X3_134, rfl, rfl⟩
theorem fl_X3_19 : FL RX3 19 3 2 true (.array (.object "RenewalClocks$Group")) := ⟨RX3, TX3, 6, tyX3, rfl, by decide, uin_X3, by decide, tyX3_ok, nmX3, Or.inl wf_X3_19, rfl, rfl⟩
theorem fl_X3_23 : FL RX3 23 3 5 false .int := ⟨RX3, TX3, 6, tyX3, rfl, by decide, uin_X3, by decide, tyX3_ok, nmX3, Or.inl wf_X3_23, rfl, rfl⟩
theorem fl_X3_29 : FL RX3 29 3 1 false .int := ⟨RX3, TX3, 6, tyX3, rfl, by decide, uin_X3, by decide, tyX3_ok, nmX3, Or.inl wf_X3_29, rfl, rfl⟩
theorem fl_X3_36 : FL RX3 36 3 3 false .int := ⟨RX3, TX3, 6, tyX3, rfl, by decide, uin_X3, by decide, tyX3_ok, nmX3, Or.inl wf_X3_36, rfl, rfl⟩
theorem fl_X3_42 : FL RX3 42 3 4 false .int := ⟨RX3, TX3, 6, tyX3, rfl, by decide, uin_X3, by decide, tyX3_ok, nmX3, Or.inl wf_X3_42, rfl, rfl⟩
theorem fl_X3_62 : FL RX3 62 0 7 false .int := ⟨RX0, TX0, 10, tyX0, rfl, by decide, uin_X0, by decide, tyX0_ok, nmX0, Or.inr wf_X3_62, rfl, rfl⟩
theorem fl_X3_65 : FL RX3 65 0 3 false .int := ⟨RX0, TX0, 10, tyX0, rfl, by decide, uin_X0, by decide, tyX0_ok, nmX0, Or.inr wf_X3_65, rfl, rfl⟩
theorem fl_X3_68 : FL RX3 68 0 0 false .int := ⟨RX0, TX0, 10, tyX0, rfl, by decide, uin_X0, by decide, tyX0_ok, nmX0, Or.inr wf_X3_68, rfl, rfl⟩
theorem fl_X3_71 : FL RX3 71 0 9 true (.object "RenewalClocks$Gaps") := ⟨RX0, TX0, 10, tyX0, rfl, by decide, uin_X0, by decide, tyX0_ok, nmX0, Or.inr wf_X3_71, rfl, rfl⟩
theorem fl_X3_75 : FL RX3 75 1 0 false .int := ⟨RX1, TX1, 5, tyX1, rfl, by decide, uin_X1, by decide, tyX1_ok, nmX1, Or.inr wf_X3_75, rfl, rfl⟩
theorem fl_X4_11 : FL RX4 11 4 0 true (.array (.object "RenewalClocks$Hall")) := ⟨RX4, TX4, 2, tyX4, rfl, by decide, uin_X4, by decide, tyX4_ok, nmX4, Or.inl wf_X4_11, rfl, rfl⟩
theorem fl_X4_18 : FL RX4 18 4 1 false .int := ⟨RX4, TX4, 2, tyX4, rfl, by decide, uin_X4, by decide, tyX4_ok, nmX4, Or.inl wf_X4_18, rfl, rfl⟩
theorem fl_X5_15 : FL RX5 15 5 0 true (.object "RenewalClocks$Text") := ⟨RX5, TX5, 7, tyX5, rfl, by decide, uin_X5, by decide, tyX5_ok, nmX5, Or.inl wf_X5_15, rfl, rfl⟩
theorem fl_X5_9 : FL RX5 9 5 1 true (.array .int) := ⟨RX5, TX5, 7, tyX5, rfl, by decide, uin_X5, by decide, tyX5_ok, nmX5, Or.inl wf_X5_9, rfl, rfl⟩
theorem fl_X6_9 : FL RX6 9 6 0 true (.array .char) := ⟨RX6, TX6, 2, tyX6, rfl, by decide, uin_X6, by decide, tyX6_ok, nmX6, Or.inl wf_X6_9, rfl, rfl⟩
theorem cs_X7_108 : CV RX7 108 RX3 yX3_groupAt cX3_groupAt 2 (some (.object "RenewalClocks$Group")) 1 := ⟨wl_X7_108, wi_X3_groupAt, ws_X3_groupAt, wz_X3, wc_X3_groupAt, rfl, ⟨by decide +kernel, by decide +kernel, by decide +kernel⟩⟩
theorem cs_X7_120 : CV RX7 120 RX3 yX3_leastRest cX3_leastRest 5 (some .int) 1 := ⟨wl_X7_120, wi_X3_leastRest, ws_X3_leastRest, wz_X3, wc_X3_leastRest, rfl, ⟨by decide +kernel, by decide +kernel, by decide +kernel⟩⟩
theorem cs_X7_128 : CV RX7 128 RX3 yX3_sumOver cX3_sumOver 5 (some .int) 2 := ⟨wl_X7_128, wi_X3_sumOver, ws_X3_sumOver, wz_X3, wc_X3_sumOver, rfl, ⟨by decide +kernel, by decide +kernel, by decide +kernel⟩⟩
theorem cs_X7_131 : CV RX7 131 RX3 yX3_clockInPlace cX3_clockInPlace 3 (some .int) 1 := ⟨wl_X7_131, wi_X3_clockInPlace, ws_X3_clockInPlace, wz_X3, wc_X3_clockInPlace, rfl, ⟨by decide +kernel, by decide +kernel, by decide +kernel⟩⟩
theorem cs_X7_167 : CV RX7 167 RX3 yX3_aboutToTell cX3_aboutToTell 3 (some .int) 0 := ⟨wl_X7_167, wi_X3_aboutToTell, ws_X3_aboutToTell, wz_X3, wc_X3_aboutToTell, rfl, ⟨by decide +kernel, by decide +kernel, by decide +kernel⟩⟩
theorem cs_X7_170 : CV RX7 170 RX3 yX3_greatestAge cX3_greatestAge 3 (some .int) 0 := ⟨wl_X7_170, wi_X3_greatestAge, ws_X3_greatestAge, wz_X3, wc_X3_greatestAge, rfl, ⟨by decide +kernel, by decide +kernel, by decide +kernel⟩⟩
theorem cs_X7_203 : CV RX7 203 RX4 yX4_keep cX4_keep 3 none 0 := ⟨wl_X7_203, wi_X4_keep, ws_X4_keep, wz_X4, wc_X4_keep, rfl, ⟨by decide +kernel, by decide +kernel, by decide +kernel⟩⟩
theorem cs_X7_212 : CS RX7 212 yX7_isLaw cX7_isLaw 1 (some .boolean) 1 := ⟨wl_X7_212, wt_X7_isLaw, wz_X7, wc_X7_isLaw, ⟨by decide +kernel, by decide +kernel, by decide +kernel⟩⟩
theorem cs_X7_216 : CS RX7 216 yX7_isGap cX7_isGap 1 (some .boolean) 1 := ⟨wl_X7_216, wt_X7_isGap, wz_X7, wc_X7_isGap, ⟨by decide +kernel, by decide +kernel, by decide +kernel⟩⟩
theorem cs_X7_219 : CS RX7 219 yX7_mayFollow cX7_mayFollow 2 (some .boolean) 2 := ⟨wl_X7_219, wt_X7_mayFollow, wz_X7, wc_X7_mayFollow, ⟨by decide +kernel, by decide +kernel, by decide +kernel⟩⟩
theorem cs_X7_42 : CV RX7 42 RX4 yX4_note cX4_note 2 none 1 := ⟨wl_X7_42, wi_X4_note, ws_X4_note, wz_X4, wc_X4_note, rfl, ⟨by decide +kernel, by decide +kernel, by decide +kernel⟩⟩
theorem cs_X7_46 : CV RX7 46 RX3 yX3_addClock cX3_addClock 7 (some .int) 5 := ⟨wl_X7_46, wi_X3_addClock, ws_X3_addClock, wz_X3, wc_X3_addClock, rfl, ⟨by decide +kernel, by decide +kernel, by decide +kernel⟩⟩
theorem cs_X7_50 : CV RX7 50 RX7 yX7_settle cX7_settle 2 (some .int) 1 := ⟨wl_X7_50, wi_X7_settle, ws_X7_settle, wz_X7, wc_X7_settle, rfl, ⟨by decide +kernel, by decide +kernel, by decide +kernel⟩⟩
theorem cs_X7_54 : CV RX7 54 RX3 yX3_windClock cX3_windClock 3 (some .int) 1 := ⟨wl_X7_54, wi_X3_windClock, ws_X3_windClock, wz_X3, wc_X3_windClock, rfl, ⟨by decide +kernel, by decide +kernel, by decide +kernel⟩⟩
theorem cs_X7_57 : CV RX7 57 RX3 yX3_endTicks cX3_endTicks 4 (some .int) 1 := ⟨wl_X7_57, wi_X3_endTicks, ws_X3_endTicks, wz_X3, wc_X3_endTicks, rfl, ⟨by decide +kernel, by decide +kernel, by decide +kernel⟩⟩
theorem cs_X7_60 : CV RX7 60 RX3 yX3_addPassenger cX3_addPassenger 3 (some .int) 1 := ⟨wl_X7_60, wi_X3_addPassenger, ws_X3_addPassenger, wz_X3, wc_X3_addPassenger, rfl, ⟨by decide +kernel, by decide +kernel, by decide +kernel⟩⟩
theorem cs_X7_63 : CV RX7 63 RX3 yX3_addGroup cX3_addGroup 2 (some .int) 1 := ⟨wl_X7_63, wi_X3_addGroup, ws_X3_addGroup, wz_X3, wc_X3_addGroup, rfl, ⟨by decide +kernel, by decide +kernel, by decide +kernel⟩⟩
theorem cs_X7_66 : CV RX7 66 RX3 yX3_joinGroup cX3_joinGroup 5 (some .int) 2 := ⟨wl_X7_66, wi_X3_joinGroup, ws_X3_joinGroup, wz_X3, wc_X3_joinGroup, rfl, ⟨by decide +kernel, by decide +kernel, by decide +kernel⟩⟩
theorem cs_X7_70 : CV RX7 70 RX3 yX3_leaveGroup cX3_leaveGroup 4 (some .int) 2 := ⟨wl_X7_70, wi_X3_leaveGroup, ws_X3_leaveGroup, wz_X3, wc_X3_leaveGroup, rfl, ⟨by decide +kernel, by decide +kernel, by decide +kernel⟩⟩
theorem cs_X7_73 : CV RX7 73 RX3 yX3_clockAt cX3_clockAt 2 (some (.object "RenewalClocks$Clock")) 1 := ⟨wl_X7_73, wi_X3_clockAt, ws_X3_clockAt, wz_X3, wc_X3_clockAt, rfl, ⟨by decide +kernel, by decide +kernel, by decide +kernel⟩⟩
theorem cs_X7_78 : CV RX7 78 RX0 yX0_tell cX0_tell 2 (some .int) 1 := ⟨wl_X7_78, wi_X0_tell, ws_X0_tell, wz_X0, wc_X0_tell, rfl, ⟨by decide +kernel, by decide +kernel, by decide +kernel⟩⟩
theorem cs_X0_47 : CV RX0 47 RX1 yX1_empty cX1_empty 1 none 0 := ⟨wl_X0_47, wi_X1_empty, ws_X1_empty, wz_X1, wc_X1_empty, rfl, ⟨by decide +kernel, by decide +kernel, by decide +kernel⟩⟩
theorem cs_X0_50 : CV RX0 50 RX0 yX0_fillRound cX0_fillRound 2 none 0 := ⟨wl_X0_50, wi_X0_fillRound, ws_X0_fillRound, wz_X0, wc_X0_fillRound, rfl, ⟨by decide +kernel, by decide +kernel, by decide +kernel⟩⟩
theorem cs_X0_53 : CV RX0 53 RX1 yX1_add cX1_add 3 none 2 := ⟨wl_X0_53, wi_X1_add, ws_X1_add, wz_X1, wc_X1_add, rfl, ⟨by decide +kernel, by decide +kernel, by decide +kernel⟩⟩
theorem cs_X0_63 : CV RX0 63 RX1 yX1_copyFrom cX1_copyFrom 2 none 1 := ⟨wl_X0_63, wi_X1_copyFrom, ws_X1_copyFrom, wz_X1, wc_X1_copyFrom, rfl, ⟨by decide +kernel, by decide +kernel, by decide +kernel⟩⟩
theorem cs_X0_70 : CV RX0 70 RX0 yX0_age cX0_age 1 (some .int) 0 := ⟨wl_X0_70, wi_X0_age, ws_X0_age, wz_X0, wc_X0_age, rfl, ⟨by decide +kernel, by decide +kernel, by decide +kernel⟩⟩
theorem cs_X2_22 : CS RX2 22 yJ6_bitCount_0f7a4 cJ6_bitCount_0f7a4 1 (some .int) 1 := ⟨wl_X2_22, wt_J6_bitCount_0f7a4, wz_J6, wc_J6_bitCount_0f7a4, ⟨by decide +kernel, by decide +kernel, by decide +kernel⟩⟩
theorem cs_X3_100 : CV RX3 100 RX2 yX2_passTick cX2_passTick 3 none 1 := ⟨wl_X3_100, wi_X2_passTick, ws_X2_passTick, wz_X2, wc_X2_passTick, rfl, ⟨by decide +kernel, by decide +kernel, by decide +kernel⟩⟩
theorem cs_X3_102 : CS RX3 102 yJ6_bitCount_0f7a4 cJ6_bitCount_0f7a4 1 (some .int) 1 := ⟨wl_X3_102, wt_J6_bitCount_0f7a4, wz_J6, wc_J6_bitCount_0f7a4, ⟨by decide +kernel, by decide +kernel, by decide +kernel⟩⟩
theorem cs_X3_116 : CSN RX3 116 yX7_isLaw cX7_isLaw 1 (some .boolean) 1 := ⟨List.mem_of_getElem? (i := 28) rfl, wt_X7_isLaw, wz_X7, wc_X7_isLaw, ⟨by decide +kernel, by decide +kernel, by decide +kernel⟩⟩
theorem cs_X3_120 : CV RX3 120 RX2 yX2_set cX2_set 2 none 1 := ⟨wl_X3_120, wi_X2_set, ws_X2_set, wz_X2, wc_X2_set, rfl, ⟨by decide +kernel, by decide +kernel, by decide +kernel⟩⟩
theorem cs_X3_122 : CV RX3 122 RX3 yX3_groupAt cX3_groupAt 2 (some (.object "RenewalClocks$Group")) 1 := ⟨wl_X3_122, wi_X3_groupAt, ws_X3_groupAt, wz_X3, wc_X3_groupAt, rfl, ⟨by decide +kernel, by decide +kernel, by decide +kernel⟩⟩
theorem cs_X3_127 : CV RX3 127 RX2 yX2_has cX2_has 2 (some .boolean) 1 := ⟨wl_X3_127, wi_X2_has, ws_X2_has, wz_X2, wc_X2_has, rfl, ⟨by decide +kernel, by decide +kernel, by decide +kernel⟩⟩
theorem cs_X3_131 : CV RX3 131 RX2 yX2_size cX2_size 1 (some .int) 0 := ⟨wl_X3_131, wi_X2_size, ws_X2_size, wz_X2, wc_X2_size, rfl, ⟨by decide +kernel, by decide +kernel, by decide +kernel⟩⟩
theorem cs_X3_138 : CV RX3 138 RX0 yX0_tell cX0_tell 2 (some .int) 1 := ⟨wl_X3_138, wi_X0_tell, ws_X0_tell, wz_X0, wc_X0_tell, rfl, ⟨by decide +kernel, by decide +kernel, by decide +kernel⟩⟩
theorem cs_X3_141 : CV RX3 141 RX3 yX3_clocksAhead cX3_clocksAhead 6 (some .int) 2 := ⟨wl_X3_141, wi_X3_clocksAhead, ws_X3_clocksAhead, wz_X3, wc_X3_clocksAhead, rfl, ⟨by decide +kernel, by decide +kernel, by decide +kernel⟩⟩
theorem cs_X3_149 : CV RX3 149 RX0 yX0_age cX0_age 1 (some .int) 0 := ⟨wl_X3_149, wi_X0_age, ws_X0_age, wz_X0, wc_X0_age, rfl, ⟨by decide +kernel, by decide +kernel, by decide +kernel⟩⟩
theorem cs_X3_152 : CS RX3 152 yJ9_max_7cf53 cJ9_max_7cf53 2 (some .int) 2 := ⟨wl_X3_152, wt_J9_max_7cf53, wz_J9, wc_J9_max_7cf53, ⟨by decide +kernel, by decide +kernel, by decide +kernel⟩⟩
theorem cs_X3_32 : CV RX3 32 RX0 yX0_copyFrom cX0_copyFrom 2 none 1 := ⟨wl_X3_32, wi_X0_copyFrom, ws_X0_copyFrom, wz_X0, wc_X0_copyFrom, rfl, ⟨by decide +kernel, by decide +kernel, by decide +kernel⟩⟩
theorem cs_X3_39 : CV RX3 39 RX2 yX2_copyFrom cX2_copyFrom 2 none 1 := ⟨wl_X3_39, wi_X2_copyFrom, ws_X2_copyFrom, wz_X2, wc_X2_copyFrom, rfl, ⟨by decide +kernel, by decide +kernel, by decide +kernel⟩⟩
theorem cs_X3_45 : CSN RX3 45 yX7_isClock cX7_isClock 5 (some .boolean) 5 := ⟨List.mem_of_getElem? (i := 27) rfl, wt_X7_isClock, wz_X7, wc_X7_isClock, ⟨by decide +kernel, by decide +kernel, by decide +kernel⟩⟩
theorem cs_X3_51 : CV RX3 51 RX0 yX0_set cX0_set 6 none 5 := ⟨wl_X3_51, wi_X0_set, ws_X0_set, wz_X0, wc_X0_set, rfl, ⟨by decide +kernel, by decide +kernel, by decide +kernel⟩⟩
theorem cs_X3_55 : CV RX3 55 RX3 yX3_beginGap cX3_beginGap 2 none 1 := ⟨wl_X3_55, wi_X3_beginGap, ws_X3_beginGap, wz_X3, wc_X3_beginGap, rfl, ⟨by decide +kernel, by decide +kernel, by decide +kernel⟩⟩
theorem cs_X3_58 : CV RX3 58 RX3 yX3_clockAt cX3_clockAt 2 (some (.object "RenewalClocks$Clock")) 1 := ⟨wl_X3_58, wi_X3_clockAt, ws_X3_clockAt, wz_X3, wc_X3_clockAt, rfl, ⟨by decide +kernel, by decide +kernel, by decide +kernel⟩⟩
theorem cs_X3_80 : CV RX3 80 RX3 yX3_draw cX3_draw 2 (some .int) 1 := ⟨wl_X3_80, wi_X3_draw, ws_X3_draw, wz_X3, wc_X3_draw, rfl, ⟨by decide +kernel, by decide +kernel, by decide +kernel⟩⟩
theorem cs_X3_84 : CV RX3 84 RX0 yX0_placeInTurn cX0_placeInTurn 1 (some .int) 0 := ⟨wl_X3_84, wi_X0_placeInTurn, ws_X0_placeInTurn, wz_X0, wc_X0_placeInTurn, rfl, ⟨by decide +kernel, by decide +kernel, by decide +kernel⟩⟩
theorem cs_X3_88 : CV RX3 88 RX0 yX0_beginAt cX0_beginAt 2 none 1 := ⟨wl_X3_88, wi_X0_beginAt, ws_X0_beginAt, wz_X0, wc_X0_beginAt, rfl, ⟨by decide +kernel, by decide +kernel, by decide +kernel⟩⟩
theorem cs_X3_93 : CV RX3 93 RX3 yX3_endTick cX3_endTick 3 (some .int) 0 := ⟨wl_X3_93, wi_X3_endTick, ws_X3_endTick, wz_X3, wc_X3_endTick, rfl, ⟨by decide +kernel, by decide +kernel, by decide +kernel⟩⟩
theorem cs_X3_96 : CV RX3 96 RX0 yX0_passTick cX0_passTick 1 (some .boolean) 0 := ⟨wl_X3_96, wi_X0_passTick, ws_X0_passTick, wz_X0, wc_X0_passTick, rfl, ⟨by decide +kernel, by decide +kernel, by decide +kernel⟩⟩
theorem cs_X4_22 : CV RX4 22 RX3 yX3_copyFrom cX3_copyFrom 3 none 1 := ⟨wl_X4_22, wi_X3_copyFrom, ws_X3_copyFrom, wz_X3, wc_X3_copyFrom, rfl, ⟨by decide +kernel, by decide +kernel, by decide +kernel⟩⟩
theorem cs_L_100 : CS RL 100 yL_acts cL_acts 12 (some .boolean) 6 := ⟨wl_L_100, wt_L_acts, wz_L, wc_L_acts, ⟨by decide +kernel, by decide +kernel, by decide +kernel⟩⟩
theorem cs_L_104 : CS RL 104 yL_isSo cL_isSo 9 (some .boolean) 5 := ⟨wl_L_104, wt_L_isSo, wz_L, wc_L_isSo, ⟨by decide +kernel, by decide +kernel, by decide +kernel⟩⟩
theorem cs_L_15 : CS RL 15 yL_gap cL_gap 4 (some .int) 3 := ⟨wl_L_15, wt_L_gap, wz_L, wc_L_gap, ⟨by decide +kernel, by decide +kernel, by decide +kernel⟩⟩
theorem cs_L_19 : CS RL 19 yL_begins cL_begins 4 none 3 := ⟨wl_L_19, wt_L_begins, wz_L, wc_L_begins, ⟨by decide +kernel, by decide +kernel, by decide +kernel⟩⟩
theorem cs_L_23 : CS RL 23 yL_bitsOf cL_bitsOf 3 (some .int) 1 := ⟨wl_L_23, wt_L_bitsOf, wz_L, wc_L_bitsOf, ⟨by decide +kernel, by decide +kernel, by decide +kernel⟩⟩
theorem cs_L_27 : CV RL 27 RX7 yX7_clock cX7_clock 6 (some .int) 5 := ⟨wl_L_27, wi_X7_clock, ws_X7_clock, wz_X7, wc_X7_clock, rfl, ⟨by decide +kernel, by decide +kernel, by decide +kernel⟩⟩
theorem cs_L_34 : CV RL 34 RX7 yX7_group cX7_group 2 (some .int) 1 := ⟨wl_L_34, wi_X7_group, ws_X7_group, wz_X7, wc_X7_group, rfl, ⟨by decide +kernel, by decide +kernel, by decide +kernel⟩⟩
theorem cs_L_37 : CV RL 37 RX7 yX7_join cX7_join 3 (some .int) 2 := ⟨wl_L_37, wi_X7_join, ws_X7_join, wz_X7, wc_X7_join, rfl, ⟨by decide +kernel, by decide +kernel, by decide +kernel⟩⟩
theorem cs_L_42 : CV RL 42 RX7 yX7_leave cX7_leave 3 (some .int) 2 := ⟨wl_L_42, wi_X7_leave, ws_X7_leave, wz_X7, wc_X7_leave, rfl, ⟨by decide +kernel, by decide +kernel, by decide +kernel⟩⟩
theorem cs_L_47 : CS RL 47 yL_low cL_low 2 (some .int) 2 := ⟨wl_L_47, wt_L_low, wz_L, wc_L_low, ⟨by decide +kernel, by decide +kernel, by decide +kernel⟩⟩
theorem cs_L_50 : CS RL 50 yL_comes cL_comes 13 (some .boolean) 5 := ⟨wl_L_50, wt_L_comes, wz_L, wc_L_comes, ⟨by decide +kernel, by decide +kernel, by decide +kernel⟩⟩
theorem cs_L_54 : CV RL 54 RX7 yX7_wind cX7_wind 2 (some .int) 1 := ⟨wl_L_54, wi_X7_wind, ws_X7_wind, wz_X7, wc_X7_wind, rfl, ⟨by decide +kernel, by decide +kernel, by decide +kernel⟩⟩
theorem cs_L_57 : CV RL 57 RX7 yX7_passenger cX7_passenger 2 (some .int) 1 := ⟨wl_L_57, wi_X7_passenger, ws_X7_passenger, wz_X7, wc_X7_passenger, rfl, ⟨by decide +kernel, by decide +kernel, by decide +kernel⟩⟩
theorem cs_L_60 : CV RL 60 RX7 yX7_tick cX7_tick 2 (some .int) 1 := ⟨wl_L_60, wi_X7_tick, ws_X7_tick, wz_X7, wc_X7_tick, rfl, ⟨by decide +kernel, by decide +kernel, by decide +kernel⟩⟩
theorem cs_L_63 : CS RL 63 yL_joins cL_joins 10 (some .boolean) 6 := ⟨wl_L_63, wt_L_joins, wz_L, wc_L_joins, ⟨by decide +kernel, by decide +kernel, by decide +kernel⟩⟩
theorem cs_L_67 : CS RL 67 yL_rest cL_rest 2 (some .int) 2 := ⟨wl_L_67, wt_L_rest, wz_L, wc_L_rest, ⟨by decide +kernel, by decide +kernel, by decide +kernel⟩⟩
theorem cs_L_71 : CS RL 71 yL_ticks cL_ticks 7 (some .int) 4 := ⟨wl_L_71, wt_L_ticks, wz_L, wc_L_ticks, ⟨by decide +kernel, by decide +kernel, by decide +kernel⟩⟩
theorem cs_L_75 : CV RL 75 RX7 yX7_clockOf cX7_clockOf 4 (some .int) 2 := ⟨wl_L_75, wi_X7_clockOf, ws_X7_clockOf, wz_X7, wc_X7_clockOf, rfl, ⟨by decide +kernel, by decide +kernel, by decide +kernel⟩⟩
theorem cs_L_79 : CV RL 79 RX7 yX7_count cX7_count 2 (some .int) 1 := ⟨wl_L_79, wi_X7_count, ws_X7_count, wz_X7, wc_X7_count, rfl, ⟨by decide +kernel, by decide +kernel, by decide +kernel⟩⟩
theorem cs_L_82 : CV RL 82 RX7 yX7_groupOf cX7_groupOf 4 (some .int) 2 := ⟨wl_L_82, wi_X7_groupOf, ws_X7_groupOf, wz_X7, wc_X7_groupOf, rfl, ⟨by decide +kernel, by decide +kernel, by decide +kernel⟩⟩
theorem cs_L_85 : CS RL 85 yL_areClocks cL_areClocks 14 (some .boolean) 4 := ⟨wl_L_85, wt_L_areClocks, wz_L, wc_L_areClocks, ⟨by decide +kernel, by decide +kernel, by decide +kernel⟩⟩
theorem cs_L_89 : CS RL 89 yL_areGroups cL_areGroups 10 (some .boolean) 5 := ⟨wl_L_89, wt_L_areGroups, wz_L, wc_L_areGroups, ⟨by decide +kernel, by decide +kernel, by decide +kernel⟩⟩
theorem cs_L_9 : CS RL 9 yL_many cL_many 3 (some .int) 2 := ⟨wl_L_9, wt_L_many, wz_L, wc_L_many, ⟨by decide +kernel, by decide +kernel, by decide +kernel⟩⟩
theorem cs_L_93 : CV RL 93 RX7 yX7_next cX7_next 2 (some .int) 1 := ⟨wl_L_93, wi_X7_next, ws_X7_next, wz_X7, wc_X7_next, rfl, ⟨by decide +kernel, by decide +kernel, by decide +kernel⟩⟩
theorem cs_L_97 : CS RL 97 yL_cell cL_cell 2 (some .int) 2 := ⟨wl_L_97, wt_L_cell, wz_L, wc_L_cell, ⟨by decide +kernel, by decide +kernel, by decide +kernel⟩⟩
end
section
/-! numbers, memory: small laws -/
theorem updr_get (M : Mem) (k : Nat) (r : Nat → Int32) (a b : Nat) : updr M k r a b = if a = k then r b else M a b := by unfold updr; split <;> rfl
theorem upd2_get (M : Mem) (k j : Nat) (v : Int32) (a b : Nat) : upd2 M k j v a b = if a = k then (if b = j then v else M k b) else M a b := by unfold upd2 upd; split <;> rfl
theorem upd2_self (M : Mem) (k j : Nat) (v : Int32) : upd2 M k j v k j = v := by simp [upd2_get]
theorem upd2_j (M : Mem) (k : Nat) {j i : Nat} (v : Int32) (h : i ≠ j) : upd2 M k j v k i = M k i := by simp [upd2_get, h]
theorem upd2_k (M : Mem) {k a : Nat} (j : Nat) (v : Int32) (h : a ≠ k) : upd2 M k j v a = M a := by simp [upd2, h]
theorem upd2_updr (M : Mem) (k j : Nat) (v : Int32) : upd2 M k j v = updr M k (upd (M k) j v) := by funext a; simp [upd2, updr]
theorem updr_upd2 (M : Mem) (k j : Nat) (r : Nat → Int32) (v : Int32) : upd2 (updr M k r) k j v = updr M k (upd r j v) := by funext a; by_cases h : a = k <;> simp [upd2, updr, h]
theorem updr_updr (M : Mem) (k : Nat) (r r' : Nat → Int32) : updr (updr M k r) k r' = updr M k r' := by funext a; by_cases h : a = k <;> simp [updr, h]
theorem updr_self (M : Mem) (k : Nat) (r : Nat → Int32) : updr M k r k = r := by simp [updr]
theorem updr_ne (M : Mem) {k a : Nat} (r : Nat → Int32) (h : a ≠ k) : updr M k r a = M a := by simp [updr, h]
theorem updr_same (M : Mem) (k : Nat) : updr M k (M k) = M := by funext a; by_cases h : a = k <;> simp [updr, h]
/-- kinds round a clock, a hall -/
theorem kd_clk {k : Nat} (h : kd k = 0) : kd (k + 1) = 9 ∧ kd (k + 2) = 1 ∧ kd (k + 3) = 1 := by
  have hk := kd_lt h (by decide)
  have : ∀ k, k < 228 → kd k = 0 → kd (k + 1) = 9 ∧ kd (k + 2) = 1 ∧ kd (k + 3) = 1 := by decide +kernel
  exact this k hk h
theorem kd_hall {k : Nat} (h : kd k = 3) : kd (k + 1) = 15 ∧ kd (k + 2) = 16 ∧ (∀ i, i < 6 → kd (k + 3 + 4 * i) = 0) ∧ ∀ i, i < 4 → kd (k + 27 + i) = 2 := by
  have hk := kd_lt h (by decide)
  have : ∀ k, k < 228 → kd k = 3 → kd (k + 1) = 15 ∧ kd (k + 2) = 16 ∧ (∀ i, i < 6 → kd (k + 3 + 4 * i) = 0) ∧ ∀ i, i < 4 → kd (k + 27 + i) = 2 := by decide +kernel
  exact this k hk h
/-! Gaps -/
/-- a tally with one gap more, so often -/
def radd (r : Nat → Int32) (gp t : Int32) : Nat → Int32 := fun j => if j = 0 then r 0 + t else if j = 1 then r 1 + gp * t else if j = 2 then r 2 + gp * gp * t else if j = 3 then r 3 + gp * (gp + 1) / 2 * t else if j = 4 then (if r 4 < gp then gp else r 4) else r j
def rzero (r : Nat → Int32) : Nat → Int32 := fun j => if j < 5 then 0 else r j
def rcopy (r r' : Nat → Int32) : Nat → Int32 := fun j => if j < 5 then r' j else r j
set_option maxHeartbeats 4000000 in
set_option maxRecDepth 100000 in
theorem c_X1_empty (l : Launch) (g : Gm) (M : Mem) (q : Nat) (hk : kd q = 1) : Cn l yX1_empty cX1_empty 1 none 0 0 g [.ref (ad g q)] M (fun v M2 => v = none ∧ M2 = updr M q (rzero (M q))) := by
  refine Cn.intro (lv0 := [some (.ref (ad g q))]) 0 (by decide +kernel) (Nat.le_of_ble_eq_true rfl) rfl (fun X F r => ?_)
  refine g_aload_n (pc := 0) F dX1_empty_0 rfl ?_
  refine g_iconst (pc := 1) (v := 0) F dX1_empty_1 (by decide) ?_
  refine g_puti (pc := 2) F fl_X1_7 rfl rfl (by assumption) rfl dX1_empty_2 ?_
  refine g_aload_n (pc := 5) F dX1_empty_5 rfl ?_
  refine g_iconst (pc := 6) (v := 0) F dX1_empty_6 (by decide) ?_
  refine g_puti (pc := 7) F fl_X1_13 rfl rfl (by assumption) rfl dX1_empty_7 ?_
  refine g_aload_n (pc := 10) F dX1_empty_10 rfl ?_
  refine g_iconst (pc := 11) (v := 0) F dX1_empty_11 (by decide) ?_
  refine g_puti (pc := 12) F fl_X1_16 rfl rfl (by assumption) rfl dX1_empty_12 ?_
  refine g_aload_n (pc := 15) F dX1_empty_15 rfl ?_
  refine g_iconst (pc := 16) (v := 0) F dX1_empty_16 (by decide) ?_
  refine g_puti (pc := 17) F fl_X1_19 rfl rfl (by assumption) rfl dX1_empty_17 ?_
  refine g_aload_n (pc := 20) F dX1_empty_20 rfl ?_
  refine g_iconst (pc := 21) (v := 0) F dX1_empty_21 (by decide) ?_
  refine g_puti (pc := 22) F fl_X1_22 rfl rfl (by assumption) rfl dX1_empty_22 ?_
  refine g_vret (pc := 25) F r dX1_empty_25 ?_
  refine ⟨rfl, ?_⟩
  simp only [upd2_updr, updr_upd2, updr_self, updr_updr]
  refine congrArg (updr M q) (funext fun j => ?_)
  match j with
  | 0 | 1 | 2 | 3 | 4 => rfl
  | j + 5 => simp [upd, rzero, show ¬ j + 5 < 5 by omega]

set_option maxHeartbeats 4000000 in
set_option maxRecDepth 100000 in
theorem c_X1_add (l : Launch) (g : Gm) (M : Mem) (q : Nat) (hk : kd q = 1) (gp t : Int32) : Cn l yX1_add cX1_add 3 none 0 0 g [.ref (ad g q), .int gp, .int t] M (fun v M2 => v = none ∧ M2 = updr M q (radd (M q) gp t)) := by
  refine Cn.intro (lv0 := [some (.ref (ad g q)), some (.int gp), some (.int t)]) 0 (by decide +kernel) (Nat.le_of_ble_eq_true rfl) rfl (fun X F r => ?_)
  refine g_aload_n (pc := 0) F dX1_add_0 rfl ?_
  refine g_dup (pc := 1) F dX1_add_1 rfl ?_
  refine g_geti (pc := 2) F fl_X1_7 (by assumption) rfl dX1_add_2 ?_
  refine g_iload_n (pc := 5) F dX1_add_5 rfl ?_
  refine g_iadd (pc := 6) F dX1_add_6 ?_
  refine g_puti (pc := 7) F fl_X1_7 rfl rfl (by assumption) rfl dX1_add_7 ?_
  refine g_aload_n (pc := 10) F dX1_add_10 rfl ?_
  refine g_dup (pc := 11) F dX1_add_11 rfl ?_
  refine g_geti (pc := 12) F fl_X1_13 (by assumption) rfl dX1_add_12 ?_
  refine g_iload_n (pc := 15) F dX1_add_15 rfl ?_
  refine g_iload_n (pc := 16) F dX1_add_16 rfl ?_
  refine g_imul (pc := 17) F dX1_add_17 ?_
  refine g_iadd (pc := 18) F dX1_add_18 ?_
  refine g_puti (pc := 19) F fl_X1_13 rfl rfl (by assumption) rfl dX1_add_19 ?_
  refine g_aload_n (pc := 22) F dX1_add_22 rfl ?_
  refine g_dup (pc := 23) F dX1_add_23 rfl ?_
  refine g_geti (pc := 24) F fl_X1_16 (by assumption) rfl dX1_add_24 ?_
  refine g_iload_n (pc := 27) F dX1_add_27 rfl ?_
  refine g_iload_n (pc := 28) F dX1_add_28 rfl ?_
  refine g_imul (pc := 29) F dX1_add_29 ?_
  refine g_iload_n (pc := 30) F dX1_add_30 rfl ?_
  refine g_imul (pc := 31) F dX1_add_31 ?_
  refine g_iadd (pc := 32) F dX1_add_32 ?_
  refine g_puti (pc := 33) F fl_X1_16 rfl rfl (by assumption) rfl dX1_add_33 ?_
  refine g_aload_n (pc := 36) F dX1_add_36 rfl ?_
  refine g_dup (pc := 37) F dX1_add_37 rfl ?_
  refine g_geti (pc := 38) F fl_X1_19 (by assumption) rfl dX1_add_38 ?_
  refine g_iload_n (pc := 41) F dX1_add_41 rfl ?_
  refine g_iload_n (pc := 42) F dX1_add_42 rfl ?_
  refine g_iconst (pc := 43) (v := 1) F dX1_add_43 (by decide) ?_
  refine g_iadd (pc := 44) F dX1_add_44 ?_
  refine g_imul (pc := 45) F dX1_add_45 ?_
  refine g_iconst (pc := 46) (v := 2) F dX1_add_46 (by decide) ?_
  refine g_idiv (pc := 47) F (by decide) dX1_add_47 ?_
  refine g_iload_n (pc := 48) F dX1_add_48 rfl ?_
  refine g_imul (pc := 49) F dX1_add_49 ?_
  refine g_iadd (pc := 50) F dX1_add_50 ?_
  refine g_puti (pc := 51) F fl_X1_19 rfl rfl (by assumption) rfl dX1_add_51 ?_
  refine g_iload_n (pc := 54) F dX1_add_54 rfl ?_
  refine g_aload_n (pc := 55) F dX1_add_55 rfl ?_
  refine g_geti (pc := 56) F fl_X1_22 (by assumption) rfl dX1_add_56 ?_
  refine g_icmp_le (pc := 59) (tgt := 67) F dX1_add_59 (by decide) (fun c59 => ?_) (fun c59 => ?_)
  · refine g_vret (pc := 67) F r dX1_add_67 ?_
    refine ⟨rfl, ?_⟩
    simp only [upd2_updr, updr_upd2, updr_self, updr_updr] at *
    refine congrArg (updr M q) (funext fun j => ?_)
    match j with
    | 0 | 1 | 2 | 3 => rfl
    | 4 => by_cases hz : M q 4 < gp <;> simp_all [upd, radd, updr_get, ← Int32.not_le]
    | j + 5 => simp [upd, radd]
  · refine g_aload_n (pc := 62) F dX1_add_62 rfl ?_
    refine g_iload_n (pc := 63) F dX1_add_63 rfl ?_
    refine g_puti (pc := 64) F fl_X1_22 rfl rfl (by assumption) rfl dX1_add_64 ?_
    refine g_vret (pc := 67) F r dX1_add_67 ?_
    refine ⟨rfl, ?_⟩
    simp only [upd2_updr, updr_upd2, updr_self, updr_updr] at *
    refine congrArg (updr M q) (funext fun j => ?_)
    match j with
    | 0 | 1 | 2 | 3 => rfl
    | 4 => by_cases hz : M q 4 < gp <;> simp_all [upd, radd, updr_get, ← Int32.not_le]
    | j + 5 => simp [upd, radd]

set_option maxHeartbeats 4000000 in
set_option maxRecDepth 100000 in
theorem c_X1_copyFrom (l : Launch) (g : Gm) (M : Mem) (q q2 : Nat) (hk : kd q = 1) (hk2 : kd q2 = 1) (hne : q ≠ q2) : Cn l yX1_copyFrom cX1_copyFrom 2 none 0 0 g [.ref (ad g q), .ref (ad g q2)] M (fun v M2 => v = none ∧ M2 = updr M q (rcopy (M q) (M q2))) := by
  refine Cn.intro (lv0 := [some (.ref (ad g q)), some (.ref (ad g q2))]) 0 (by decide +kernel) (Nat.le_of_ble_eq_true rfl) rfl (fun X F r => ?_)
  refine g_aload_n (pc := 0) F dX1_copyFrom_0 rfl ?_
  refine g_aload_n (pc := 1) F dX1_copyFrom_1 rfl ?_
  refine g_geti (pc := 2) F fl_X1_7 (by assumption) rfl dX1_copyFrom_2 ?_
  refine g_puti (pc := 5) F fl_X1_7 rfl rfl (by assumption) rfl dX1_copyFrom_5 ?_
  refine g_aload_n (pc := 8) F dX1_copyFrom_8 rfl ?_
  refine g_aload_n (pc := 9) F dX1_copyFrom_9 rfl ?_
  refine g_geti (pc := 10) F fl_X1_13 (by assumption) rfl dX1_copyFrom_10 ?_
  refine g_puti (pc := 13) F fl_X1_13 rfl rfl (by assumption) rfl dX1_copyFrom_13 ?_
  refine g_aload_n (pc := 16) F dX1_copyFrom_16 rfl ?_
  refine g_aload_n (pc := 17) F dX1_copyFrom_17 rfl ?_
  refine g_geti (pc := 18) F fl_X1_16 (by assumption) rfl dX1_copyFrom_18 ?_
  refine g_puti (pc := 21) F fl_X1_16 rfl rfl (by assumption) rfl dX1_copyFrom_21 ?_
  refine g_aload_n (pc := 24) F dX1_copyFrom_24 rfl ?_
  refine g_aload_n (pc := 25) F dX1_copyFrom_25 rfl ?_
  refine g_geti (pc := 26) F fl_X1_19 (by assumption) rfl dX1_copyFrom_26 ?_
  refine g_puti (pc := 29) F fl_X1_19 rfl rfl (by assumption) rfl dX1_copyFrom_29 ?_
  refine g_aload_n (pc := 32) F dX1_copyFrom_32 rfl ?_
  refine g_aload_n (pc := 33) F dX1_copyFrom_33 rfl ?_
  refine g_geti (pc := 34) F fl_X1_22 (by assumption) rfl dX1_copyFrom_34 ?_
  refine g_puti (pc := 37) F fl_X1_22 rfl rfl (by assumption) rfl dX1_copyFrom_37 ?_
  refine g_vret (pc := 40) F r dX1_copyFrom_40 ?_
  refine ⟨rfl, ?_⟩
  simp only [upd2_updr, updr_upd2, updr_self, updr_updr, updr_ne _ _ hne.symm]
  refine congrArg (updr M q) (funext fun j => ?_)
  match j with
  | 0 | 1 | 2 | 3 | 4 => rfl
  | j + 5 => simp [upd, rcopy, show ¬ j + 5 < 5 by omega]

/-! Group -/
set_option maxHeartbeats 4000000 in
set_option maxRecDepth 100000 in
theorem c_X2_set (l : Launch) (g : Gm) (M : Mem) (q : Nat) (hk : kd q = 2) (law : Int32) : Cn l yX2_set cX2_set 2 none 0 0 g [.ref (ad g q), .int law] M (fun v M2 => v = none ∧ M2 = updr M q (fun j => if j = 0 then law else if j < 4 then 0 else M q j)) := by
  refine Cn.intro (lv0 := [some (.ref (ad g q)), some (.int law)]) 0 (by decide +kernel) (Nat.le_of_ble_eq_true rfl) rfl (fun X F r => ?_)
  refine g_aload_n (pc := 0) F dX2_set_0 rfl ?_
  refine g_iload_n (pc := 1) F dX2_set_1 rfl ?_
  refine g_puti (pc := 2) F fl_X2_7 rfl rfl (by assumption) rfl dX2_set_2 ?_
  refine g_aload_n (pc := 5) F dX2_set_5 rfl ?_
  refine g_iconst (pc := 6) (v := 0) F dX2_set_6 (by decide) ?_
  refine g_puti (pc := 7) F fl_X2_13 rfl rfl (by assumption) rfl dX2_set_7 ?_
  refine g_aload_n (pc := 10) F dX2_set_10 rfl ?_
  refine g_iconst (pc := 11) (v := 0) F dX2_set_11 (by decide) ?_
  refine g_puti (pc := 12) F fl_X2_16 rfl rfl (by assumption) rfl dX2_set_12 ?_
  refine g_aload_n (pc := 15) F dX2_set_15 rfl ?_
  refine g_iconst (pc := 16) (v := 0) F dX2_set_16 (by decide) ?_
  refine g_puti (pc := 17) F fl_X2_19 rfl rfl (by assumption) rfl dX2_set_17 ?_
  refine g_vret (pc := 20) F r dX2_set_20 ?_
  refine ⟨rfl, ?_⟩
  simp only [upd2_updr, updr_upd2, updr_self, updr_updr]
  refine congrArg (updr M q) (funext fun j => ?_)
  match j with
  | 0 | 1 | 2 | 3 => rfl
  | j + 4 => simp [upd, show ¬ j + 4 < 4 by omega]

set_option maxHeartbeats 4000000 in
set_option maxRecDepth 100000 in
theorem c_X2_copyFrom (l : Launch) (g : Gm) (M : Mem) (q q2 : Nat) (hk : kd q = 2) (hk2 : kd q2 = 2) (hne : q ≠ q2) : Cn l yX2_copyFrom cX2_copyFrom 2 none 0 0 g [.ref (ad g q), .ref (ad g q2)] M (fun v M2 => v = none ∧ M2 = updr M q (fun j => if j < 4 then M q2 j else M q j)) := by
  refine Cn.intro (lv0 := [some (.ref (ad g q)), some (.ref (ad g q2))]) 0 (by decide +kernel) (Nat.le_of_ble_eq_true rfl) rfl (fun X F r => ?_)
  refine g_aload_n (pc := 0) F dX2_copyFrom_0 rfl ?_
  refine g_aload_n (pc := 1) F dX2_copyFrom_1 rfl ?_
  refine g_geti (pc := 2) F fl_X2_7 (by assumption) rfl dX2_copyFrom_2 ?_
  refine g_puti (pc := 5) F fl_X2_7 rfl rfl (by assumption) rfl dX2_copyFrom_5 ?_
  refine g_aload_n (pc := 8) F dX2_copyFrom_8 rfl ?_
  refine g_aload_n (pc := 9) F dX2_copyFrom_9 rfl ?_
  refine g_geti (pc := 10) F fl_X2_13 (by assumption) rfl dX2_copyFrom_10 ?_
  refine g_puti (pc := 13) F fl_X2_13 rfl rfl (by assumption) rfl dX2_copyFrom_13 ?_
  refine g_aload_n (pc := 16) F dX2_copyFrom_16 rfl ?_
  refine g_aload_n (pc := 17) F dX2_copyFrom_17 rfl ?_
  refine g_geti (pc := 18) F fl_X2_16 (by assumption) rfl dX2_copyFrom_18 ?_
  refine g_puti (pc := 21) F fl_X2_16 rfl rfl (by assumption) rfl dX2_copyFrom_21 ?_
  refine g_aload_n (pc := 24) F dX2_copyFrom_24 rfl ?_
  refine g_aload_n (pc := 25) F dX2_copyFrom_25 rfl ?_
  refine g_geti (pc := 26) F fl_X2_19 (by assumption) rfl dX2_copyFrom_26 ?_
  refine g_puti (pc := 29) F fl_X2_19 rfl rfl (by assumption) rfl dX2_copyFrom_29 ?_
  refine g_vret (pc := 32) F r dX2_copyFrom_32 ?_
  refine ⟨rfl, ?_⟩
  simp only [upd2_updr, updr_upd2, updr_self, updr_updr, updr_ne _ _ hne.symm]
  refine congrArg (updr M q) (funext fun j => ?_)
  match j with
  | 0 | 1 | 2 | 3 => rfl
  | j + 4 => simp [upd, show ¬ j + 4 < 4 by omega]

def b2i (b : Prop) [Decidable b] : Int32 := if b then 1 else 0
set_option maxHeartbeats 4000000 in
set_option maxRecDepth 100000 in
theorem c_X2_has (l : Launch) (g : Gm) (M : Mem) (q : Nat) (hk : kd q = 2) (c : Int32) : Cn l yX2_has cX2_has 2 (some .boolean) 0 0 g [.ref (ad g q), .int c] M (fun v M2 => v = some (.int (b2i (¬ M q 1 &&& (1 <<< (c &&& 31)) = 0))) ∧ M2 = M) := by
  refine Cn.intro (lv0 := [some (.ref (ad g q)), some (.int c)]) 0 (by decide +kernel) (Nat.le_of_ble_eq_true rfl) rfl (fun X F r => ?_)
  refine g_aload_n (pc := 0) F dX2_has_0 rfl ?_
  refine g_geti (pc := 1) F fl_X2_13 (by assumption) rfl dX2_has_1 ?_
  refine g_iconst (pc := 4) (v := 1) F dX2_has_4 (by decide) ?_
  refine g_iload_n (pc := 5) F dX2_has_5 rfl ?_
  refine g_ishl (pc := 6) F dX2_has_6 ?_
  refine g_iand (pc := 7) F dX2_has_7 ?_
  refine g_if_eq (pc := 8) (tgt := 15) F dX2_has_8 (by decide) (fun c8 => ?_) (fun c8 => ?_)
  · refine g_iconst (pc := 15) (v := 0) F dX2_has_15 (by decide) ?_
    refine g_zret (pc := 16) F (by decide) r dX2_has_16 ?_
    refine ⟨?_, rfl⟩
    simp_all [b2i]
  · refine g_iconst (pc := 11) (v := 1) F dX2_has_11 (by decide) ?_
    refine g_goto (pc := 12) (tgt := 16) F dX2_has_12 (by decide) ?_
    refine g_zret (pc := 16) F (by decide) r dX2_has_16 ?_
    refine ⟨?_, rfl⟩
    simp_all [b2i]
end
section
/-! Integer.bitCount -/
def jbs (x : Int32) (n : Int32) : Int32 := (x.toUInt32 >>> (n.toUInt32 &&& Int32.toUInt32 31)).toInt32
def jb1 (x : Int32) : Int32 := x - (jbs x 1 &&& 1431655765)
def jb2 (x : Int32) : Int32 := (x &&& 858993459) + (jbs x 2 &&& 858993459)
def jb3 (x : Int32) : Int32 := (x + jbs x 4) &&& 252645135
def jb4 (x : Int32) : Int32 := x + jbs x 8
def jb5 (x : Int32) : Int32 := x + jbs x 16
def jbc (x : Int32) : Int32 := jb5 (jb4 (jb3 (jb2 (jb1 x)))) &&& 63
set_option maxHeartbeats 4000000 in
set_option maxRecDepth 100000 in
theorem c_J6_bitCount_0f7a4 (l : Launch) (g : Gm) (M : Mem) (x : Int32) : Cn l yJ6_bitCount_0f7a4 cJ6_bitCount_0f7a4 1 (some .int) 0 0 g [.int x] M (fun v M2 => v = some (.int (jbc x)) ∧ M2 = M) := by
  refine Cn.intro (lv0 := [some (.int x)]) 0 (by decide +kernel) (Nat.le_of_ble_eq_true rfl) rfl (fun X F r => ?_)
  refine g_iload_n (pc := 0) F dJ6_bitCount_0f7a4_0 rfl ?_
  refine g_iload_n (pc := 1) F dJ6_bitCount_0f7a4_1 rfl ?_
  refine g_iconst (pc := 2) (v := 1) F dJ6_bitCount_0f7a4_2 (by decide) ?_
  refine g_iushr (pc := 3) F dJ6_bitCount_0f7a4_3 rfl ?_
  refine g_ldcw (pc := 4) F wk_J6_265 dJ6_bitCount_0f7a4_4 ?_
  refine g_iand (pc := 7) F dJ6_bitCount_0f7a4_7 ?_
  refine g_isub (pc := 8) F dJ6_bitCount_0f7a4_8 ?_
  refine g_istore_n (pc := 9) F dJ6_bitCount_0f7a4_9 (by decide) rfl ?_
  refine g_iload_n (pc := 10) F dJ6_bitCount_0f7a4_10 rfl ?_
  refine g_ldcw (pc := 11) F wk_J6_266 dJ6_bitCount_0f7a4_11 ?_
  refine g_iand (pc := 14) F dJ6_bitCount_0f7a4_14 ?_
  refine g_iload_n (pc := 15) F dJ6_bitCount_0f7a4_15 rfl ?_
  refine g_iconst (pc := 16) (v := 2) F dJ6_bitCount_0f7a4_16 (by decide) ?_
  refine g_iushr (pc := 17) F dJ6_bitCount_0f7a4_17 rfl ?_
  refine g_ldcw (pc := 18) F wk_J6_266 dJ6_bitCount_0f7a4_18 ?_
  refine g_iand (pc := 21) F dJ6_bitCount_0f7a4_21 ?_
  refine g_iadd (pc := 22) F dJ6_bitCount_0f7a4_22 ?_
  refine g_istore_n (pc := 23) F dJ6_bitCount_0f7a4_23 (by decide) rfl ?_
  refine g_iload_n (pc := 24) F dJ6_bitCount_0f7a4_24 rfl ?_
  refine g_iload_n (pc := 25) F dJ6_bitCount_0f7a4_25 rfl ?_
  refine g_iconst (pc := 26) (v := 4) F dJ6_bitCount_0f7a4_26 (by decide) ?_
  refine g_iushr (pc := 27) F dJ6_bitCount_0f7a4_27 rfl ?_
  refine g_iadd (pc := 28) F dJ6_bitCount_0f7a4_28 ?_
  refine g_ldcw (pc := 29) F wk_J6_267 dJ6_bitCount_0f7a4_29 ?_
  refine g_iand (pc := 32) F dJ6_bitCount_0f7a4_32 ?_
  refine g_istore_n (pc := 33) F dJ6_bitCount_0f7a4_33 (by decide) rfl ?_
  refine g_iload_n (pc := 34) F dJ6_bitCount_0f7a4_34 rfl ?_
  refine g_iload_n (pc := 35) F dJ6_bitCount_0f7a4_35 rfl ?_
  refine g_bipush (pc := 36) (v := 8) F dJ6_bitCount_0f7a4_36 (by decide) ?_
  refine g_iushr (pc := 38) F dJ6_bitCount_0f7a4_38 rfl ?_
  refine g_iadd (pc := 39) F dJ6_bitCount_0f7a4_39 ?_
  refine g_istore_n (pc := 40) F dJ6_bitCount_0f7a4_40 (by decide) rfl ?_
  refine g_iload_n (pc := 41) F dJ6_bitCount_0f7a4_41 rfl ?_
  refine g_iload_n (pc := 42) F dJ6_bitCount_0f7a4_42 rfl ?_
  refine g_bipush (pc := 43) (v := 16) F dJ6_bitCount_0f7a4_43 (by decide) ?_
  refine g_iushr (pc := 45) F dJ6_bitCount_0f7a4_45 rfl ?_
  refine g_iadd (pc := 46) F dJ6_bitCount_0f7a4_46 ?_
  refine g_istore_n (pc := 47) F dJ6_bitCount_0f7a4_47 (by decide) rfl ?_
  refine g_iload_n (pc := 48) F dJ6_bitCount_0f7a4_48 rfl ?_
  refine g_bipush (pc := 49) (v := 63) F dJ6_bitCount_0f7a4_49 (by decide) ?_
  refine g_iand (pc := 51) F dJ6_bitCount_0f7a4_51 ?_
  refine g_iret (pc := 52) F r dJ6_bitCount_0f7a4_52 ?_
  exact ⟨rfl, rfl⟩

set_option maxHeartbeats 4000000 in
set_option maxRecDepth 100000 in
theorem c_X2_size (l : Launch) (g : Gm) (M : Mem) (q : Nat) (hk : kd q = 2) : Cn l yX2_size cX2_size 1 (some .int) 1 20 g [.ref (ad g q)] M (fun v M2 => v = some (.int (jbc (M q 1))) ∧ M2 = M) := by
  refine Cn.intro (lv0 := [some (.ref (ad g q))]) 0 (by decide +kernel) (Nat.le_of_ble_eq_true rfl) rfl (fun X F r => ?_)
  refine g_aload_n (pc := 0) F dX2_size_0 rfl ?_
  refine g_geti (pc := 1) F fl_X2_13 (by assumption) rfl dX2_size_1 ?_
  refine g_callS (pc := 4) (rf2 := 0) (rl2 := 0) F cs_X2_22 (by rfl) (by rfl) (Nat.le_of_ble_eq_true (by rfl)) (by decide) dX2_size_4 (c_J6_bitCount_0f7a4 _ g _ _) (fun v M2 hz => ?_)
  obtain ⟨rfl, h2⟩ := hz
  rw [h2]
  refine g_iret (pc := 7) F r dX2_size_7 ?_
  exact ⟨rfl, rfl⟩

/-- a group's row when a tick ends at which the clocks z have told -/
def gtick (r : Nat → Int32) (z : Int32) : Nat → Int32 := fun j => if j = 2 then r 2 + jbc (r 1 &&& z) else if j = 3 then (if jbc (r 1 &&& z) < 2 then r 3 else r 3 + 1) else r j
theorem g_top {X : XT} {g : Gm} {nL : Nat} {M : Mem} {pc : Nat} {lv : List (Option Value)} {st : List Value} {x : Int32} (k : ∀ y : Int32, y = x → G X g nL M pc lv (.int y :: st)) : G X g nL M pc lv (.int x :: st) := k x rfl
theorem g_stk {X : XT} {g : Gm} {nL : Nat} {M : Mem} {pc : Nat} {lv : List (Option Value)} {st st' : List Value} (h : st = st') (k : G X g nL M pc lv st') : G X g nL M pc lv st := h ▸ k
set_option maxHeartbeats 4000000 in
set_option maxRecDepth 100000 in
theorem c_X2_passTick (l : Launch) (g : Gm) (M : Mem) (q : Nat) (hk : kd q = 2) (z : Int32) : Cn l yX2_passTick cX2_passTick 3 none 1 20 g [.ref (ad g q), .int z] M (fun v M2 => v = none ∧ M2 = updr M q (gtick (M q) z)) := by
  refine Cn.intro (lv0 := [some (.ref (ad g q)), some (.int z), none]) 1 (by decide +kernel) (Nat.le_of_ble_eq_true rfl) rfl (fun X F r => ?_)
  refine g_aload_n (pc := 0) F dX2_passTick_0 rfl ?_
  refine g_geti (pc := 1) F fl_X2_13 (by assumption) rfl dX2_passTick_1 ?_
  refine g_iload_n (pc := 4) F dX2_passTick_4 rfl ?_
  refine g_iand (pc := 5) F dX2_passTick_5 ?_
  refine g_callS (pc := 6) (rf2 := 0) (rl2 := 0) F cs_X2_22 (by rfl) (by rfl) (Nat.le_of_ble_eq_true (by rfl)) (by decide) dX2_passTick_6 (c_J6_bitCount_0f7a4 _ g _ _) (fun v M2 hz => ?_)
  obtain ⟨rfl, h2⟩ := hz
  rw [h2]
  refine g_top (pc := 9) (fun y hy => ?_)
  refine g_istore_n (pc := 9) F dX2_passTick_9 (by decide) rfl ?_
  refine g_aload_n (pc := 10) F dX2_passTick_10 rfl ?_
  refine g_dup (pc := 11) F dX2_passTick_11 rfl ?_
  refine g_geti (pc := 12) F fl_X2_16 (by assumption) rfl dX2_passTick_12 ?_
  refine g_iload_n (pc := 15) F dX2_passTick_15 rfl ?_
  refine g_iadd (pc := 16) F dX2_passTick_16 ?_
  refine g_puti (pc := 17) F fl_X2_16 rfl rfl (by assumption) rfl dX2_passTick_17 ?_
  refine g_iload_n (pc := 20) F dX2_passTick_20 rfl ?_
  refine g_iconst (pc := 21) (v := 2) F dX2_passTick_21 (by decide) ?_
  refine g_icmp_lt (pc := 22) (tgt := 35) F dX2_passTick_22 (by decide) (fun c22 => ?_) (fun c22 => ?_)
  · refine g_vret (pc := 35) F r dX2_passTick_35 ?_
    refine ⟨rfl, ?_⟩
    simp only [upd2_updr, updr_upd2, updr_self, updr_updr]
    refine congrArg (updr M q) (funext fun j => ?_)
    subst hy
    by_cases h2 : j = 2 <;> by_cases h3 : j = 3 <;> simp_all [upd, gtick]
  · refine g_aload_n (pc := 25) F dX2_passTick_25 rfl ?_
    refine g_dup (pc := 26) F dX2_passTick_26 rfl ?_
    refine g_geti (pc := 27) F fl_X2_19 (by assumption) rfl dX2_passTick_27 ?_
    refine g_iconst (pc := 30) (v := 1) F dX2_passTick_30 (by decide) ?_
    refine g_iadd (pc := 31) F dX2_passTick_31 ?_
    refine g_puti (pc := 32) F fl_X2_19 rfl rfl (by assumption) rfl dX2_passTick_32 ?_
    refine g_vret (pc := 35) F r dX2_passTick_35 ?_
    refine ⟨rfl, ?_⟩
    simp only [upd2_updr, updr_upd2, updr_self, updr_updr]
    refine congrArg (updr M q) (funext fun j => ?_)
    subst hy
    by_cases h2 : j = 2 <;> by_cases h3 : j = 3 <;> simp_all [upd, gtick]

/-! Clock: the rows c (fields), c + 1 (numbers), c + 2 (told), c + 3 (round) -/
def radc (r : Nat → Int32) (x : Int32) : Nat → Int32 := if 0 < x then radd r x 1 else r
def radcs (r : Nat → Int32) (f : Nat → Int32) : Nat → (Nat → Int32)
  | 0 => r
  | i + 1 => radc (radcs r f i) (f i)
/-- the tally of one round of a law -/
def rndR (r : Nat → Int32) (law : Int32) (f : Nat → Int32) : Nat → Int32 := if law = 2 then radd (radd r (f 0) (f 1)) (f 2) 1 else radcs r f 4
set_option maxHeartbeats 4000000 in
set_option maxRecDepth 100000 in
theorem c_X0_fillRound (l : Launch) (g : Gm) (M : Mem) (c : Nat) (hk : kd c = 0) : Cn l yX0_fillRound cX0_fillRound 2 none 1 22 g [.ref (ad g c)] M (fun v M2 => v = none ∧ M2 = updr M (c + 3) (rndR (rzero (M (c + 3))) (M c 0) (M (c + 1)))) := by
  refine Cn.intro (lv0 := [some (.ref (ad g c)), none]) 1 (by decide +kernel) (Nat.le_of_ble_eq_true rfl) rfl (fun X F r => ?_)
  obtain ⟨hk1, hk2, hk3⟩ := kd_clk hk
  have L : ¬ M c 0 = 2 → ∀ (n i : Nat) (x : Int32), i + n = 4 → x = nI i → G X g 2 (updr M (c + 3) (radcs (rzero (M (c + 3))) (M (c + 1)) i)) 51 [some (.ref (ad g c)), some (.int x)] [] := by
    intro hl n
    induction n with
    | zero =>
      intro i x hi hx
      obtain rfl : i = 4 := by omega
      refine g_iload_n (pc := 51) F dX0_fillRound_51 rfl ?_
      refine g_aload_n (pc := 52) F dX0_fillRound_52 rfl ?_
      refine g_getr (pc := 53) F fl_X0_9 (by assumption) rfl dX0_fillRound_53 ?_
      refine g_alen (pc := 56) F (by assumption) rfl (v := 4) (by decide) dX0_fillRound_56 ?_
      refine g_icmp_ge (pc := 57) (tgt := 89) F dX0_fillRound_57 (by decide) (fun c57 => ?_) (fun c57 => ?_)
      · refine g_vret (pc := 89) F r dX0_fillRound_89 ?_
        refine ⟨rfl, ?_⟩
        rw [show rndR (rzero (M (c + 3))) (M c 0) (M (c + 1)) = radcs (rzero (M (c + 3))) (M (c + 1)) 4 from if_neg hl]
      · exact absurd (by rw [hx]; decide) c57
    | succ n ih =>
      intro i x hi hx
      refine g_iload_n (pc := 51) F dX0_fillRound_51 rfl ?_
      refine g_aload_n (pc := 52) F dX0_fillRound_52 rfl ?_
      refine g_getr (pc := 53) F fl_X0_9 (by assumption) rfl dX0_fillRound_53 ?_
      refine g_alen (pc := 56) F (by assumption) rfl (v := 4) (by decide) dX0_fillRound_56 ?_
      refine g_icmp_ge (pc := 57) (tgt := 89) F dX0_fillRound_57 (by decide) (fun c57 => ?_) (fun c57 => ?_)
      · exact absurd c57 (by rw [hx]; exact nI_ge (a := i) (b := 4) (by omega) (by decide))
      · refine g_aload_n (pc := 60) F dX0_fillRound_60 rfl ?_
        refine g_getr (pc := 61) F fl_X0_9 (by assumption) rfl dX0_fillRound_61 ?_
        refine g_iload_n (pc := 64) F dX0_fillRound_64 rfl ?_
        refine g_iald (pc := 65) F (by assumption) rfl (by assumption) (by omega) dX0_fillRound_65 ?_
        refine g_if_le (pc := 66) (tgt := 83) F dX0_fillRound_66 (by decide) (fun c66 => ?_) (fun c66 => ?_)
        · rw [updr_ne _ _ (show c + 1 ≠ c + 3 by omega)] at c66
          refine g_iinc (pc := 83) F dX0_fillRound_83 rfl rfl (by decide) rfl ?_
          refine g_goto (pc := 86) (tgt := 51) F dX0_fillRound_86 (by decide) ?_
          refine G.mem ?_ (ih (i + 1) _ (by omega) (by rw [hx]; exact nI_1 i))
          simp only [radcs, radc, updr_updr, updr_self, updr_ne _ _ (show c + 1 ≠ c + 3 by omega)]
          first | rw [if_pos (Int32.not_le.mp c66)] | rw [if_neg (Int32.not_lt.mpr c66)]
        · rw [updr_ne _ _ (show c + 1 ≠ c + 3 by omega)] at c66
          refine g_aload_n (pc := 69) F dX0_fillRound_69 rfl ?_
          refine g_getr (pc := 70) F fl_X0_22 (by assumption) rfl dX0_fillRound_70 ?_
          refine g_aload_n (pc := 73) F dX0_fillRound_73 rfl ?_
          refine g_getr (pc := 74) F fl_X0_9 (by assumption) rfl dX0_fillRound_74 ?_
          refine g_iload_n (pc := 77) F dX0_fillRound_77 rfl ?_
          refine g_iald (pc := 78) F (by assumption) rfl (by assumption) (by omega) dX0_fillRound_78 ?_
          refine g_iconst (pc := 79) (v := 1) F dX0_fillRound_79 (by decide) ?_
          refine g_callV (pc := 80) (rf2 := 0) (rl2 := 0) F cs_X0_53 (by assumption) rfl (by decide) (by rfl) (by rfl) (Nat.le_of_ble_eq_true (by rfl)) (by decide) dX0_fillRound_80 (c_X1_add _ g _ (c + 3) hk3 _ _) (fun v M2 hz => ?_)
          obtain ⟨rfl, rfl⟩ := hz
          refine g_iinc (pc := 83) F dX0_fillRound_83 rfl rfl (by decide) rfl ?_
          refine g_goto (pc := 86) (tgt := 51) F dX0_fillRound_86 (by decide) ?_
          refine G.mem ?_ (ih (i + 1) _ (by omega) (by rw [hx]; exact nI_1 i))
          simp only [radcs, radc, updr_updr, updr_self, updr_ne _ _ (show c + 1 ≠ c + 3 by omega)]
          first | rw [if_pos (Int32.not_le.mp c66)] | rw [if_neg (Int32.not_lt.mpr c66)]
  refine g_aload_n (pc := 0) F dX0_fillRound_0 rfl ?_
  refine g_getr (pc := 1) F fl_X0_22 (by assumption) rfl dX0_fillRound_1 ?_
  refine g_callV (pc := 4) (rf2 := 0) (rl2 := 0) F cs_X0_47 (by assumption) rfl (by decide) (by rfl) (by rfl) (Nat.le_of_ble_eq_true (by rfl)) (by decide) dX0_fillRound_4 (c_X1_empty _ g _ (c + 3) hk3) (fun v M2 hz => ?_)
  obtain ⟨rfl, rfl⟩ := hz
  refine g_aload_n (pc := 7) F dX0_fillRound_7 rfl ?_
  refine g_geti (pc := 8) F fl_X0_25 (by assumption) rfl dX0_fillRound_8 ?_
  refine g_iconst (pc := 11) (v := 2) F dX0_fillRound_11 (by decide) ?_
  refine g_icmp_ne (pc := 12) (tgt := 49) F dX0_fillRound_12 (by decide) (fun c12 => ?_) (fun c12 => ?_)
  · refine g_iconst (pc := 49) (v := 0) F dX0_fillRound_49 (by decide) ?_
    refine g_istore_n (pc := 50) F dX0_fillRound_50 (by decide) rfl ?_
    exact L (by simpa only [updr_updr, updr_self, updr_ne _ _ (show c ≠ c + 3 by omega), updr_ne _ _ (show c + 1 ≠ c + 3 by omega)] using c12) 4 0 0 rfl nI_0.symm
  · refine g_aload_n (pc := 15) F dX0_fillRound_15 rfl ?_
    refine g_getr (pc := 16) F fl_X0_22 (by assumption) rfl dX0_fillRound_16 ?_
    refine g_aload_n (pc := 19) F dX0_fillRound_19 rfl ?_
    refine g_getr (pc := 20) F fl_X0_9 (by assumption) rfl dX0_fillRound_20 ?_
    refine g_iconst (pc := 23) (v := 0) F dX0_fillRound_23 (by decide) ?_
    refine g_iald (pc := 24) (q := 0) F (by assumption) rfl (by decide) (by decide) dX0_fillRound_24 ?_
    refine g_aload_n (pc := 25) F dX0_fillRound_25 rfl ?_
    refine g_getr (pc := 26) F fl_X0_9 (by assumption) rfl dX0_fillRound_26 ?_
    refine g_iconst (pc := 29) (v := 1) F dX0_fillRound_29 (by decide) ?_
    refine g_iald (pc := 30) (q := 1) F (by assumption) rfl (by decide) (by decide) dX0_fillRound_30 ?_
    refine g_callV (pc := 31) (rf2 := 0) (rl2 := 0) F cs_X0_53 (by assumption) rfl (by decide) (by rfl) (by rfl) (Nat.le_of_ble_eq_true (by rfl)) (by decide) dX0_fillRound_31 (c_X1_add _ g _ (c + 3) hk3 _ _) (fun v M2 hz => ?_)
    obtain ⟨rfl, rfl⟩ := hz
    refine g_aload_n (pc := 34) F dX0_fillRound_34 rfl ?_
    refine g_getr (pc := 35) F fl_X0_22 (by assumption) rfl dX0_fillRound_35 ?_
    refine g_aload_n (pc := 38) F dX0_fillRound_38 rfl ?_
    refine g_getr (pc := 39) F fl_X0_9 (by assumption) rfl dX0_fillRound_39 ?_
    refine g_iconst (pc := 42) (v := 2) F dX0_fillRound_42 (by decide) ?_
    refine g_iald (pc := 43) (q := 2) F (by assumption) rfl (by decide) (by decide) dX0_fillRound_43 ?_
    refine g_iconst (pc := 44) (v := 1) F dX0_fillRound_44 (by decide) ?_
    refine g_callV (pc := 45) (rf2 := 0) (rl2 := 0) F cs_X0_53 (by assumption) rfl (by decide) (by rfl) (by rfl) (Nat.le_of_ble_eq_true (by rfl)) (by decide) dX0_fillRound_45 (c_X1_add _ g _ (c + 3) hk3 _ _) (fun v M2 hz => ?_)
    obtain ⟨rfl, rfl⟩ := hz
    refine g_vret (pc := 48) F r dX0_fillRound_48 ?_
    refine ⟨rfl, ?_⟩
    simp only [updr_updr, updr_self, updr_ne _ _ (show c ≠ c + 3 by omega), updr_ne _ _ (show c + 1 ≠ c + 3 by omega)] at c12 ⊢
    rw [show rndR (rzero (M (c + 3))) (M c 0) (M (c + 1)) = radd (radd (rzero (M (c + 3))) (M (c + 1) 0) (M (c + 1) 1)) (M (c + 1) 2) 1 from if_pos c12]

def csetF (r : Nat → Int32) (la : Int32) : Nat → Int32 := fun j => if j = 0 then la else if j = 2 then -1 else if j = 3 then 0 else if j = 4 then 0 else if j = 5 then 0 else if j = 6 then 0 else if j = 7 then 0 else r j
def nset (r : Nat → Int32) (a b c d : Int32) : Nat → Int32 := fun j => if j = 0 then a else if j = 1 then b else if j = 2 then c else if j = 3 then d else r j
def csetM (M : Mem) (k : Nat) (la a b c d : Int32) : Mem := updr (updr (updr (updr M (k + 1) (nset (M (k + 1)) a b c d)) k (csetF (M k) la)) (k + 2) (rzero (M (k + 2)))) (k + 3) (rndR (rzero (M (k + 3))) la (nset (M (k + 1)) a b c d))
set_option maxHeartbeats 4000000 in
set_option maxRecDepth 100000 in
theorem c_X0_set (l : Launch) (g : Gm) (M : Mem) (k : Nat) (hk : kd k = 0) (la a b c d : Int32) : Cn l yX0_set cX0_set 6 none 2 43 g [.ref (ad g k), .int la, .int a, .int b, .int c, .int d] M (fun v M2 => v = none ∧ M2 = csetM M k la a b c d) := by
  refine Cn.intro (lv0 := [some (.ref (ad g k)), some (.int la), some (.int a), some (.int b), some (.int c), some (.int d)]) 0 (by decide +kernel) (Nat.le_of_ble_eq_true rfl) rfl (fun X F r => ?_)
  obtain ⟨hk1, hk2, hk3⟩ := kd_clk hk
  have hA : ∀ (M1 : Mem), M1 = updr (updr M (k + 1) (nset (M (k + 1)) a b c d)) k (csetF (M k) la) → G X g 6 M1 65 [some (.ref (ad g k)), some (.int la), some (.int a), some (.int b), some (.int c), some (.int d)] [] := by
    intro M1 hM1
    refine g_aload_n (pc := 65) F dX0_set_65 rfl ?_
    refine g_getr (pc := 66) F fl_X0_18 (by assumption) rfl dX0_set_66 ?_
    refine g_callV (pc := 69) (rf2 := 0) (rl2 := 0) F cs_X0_47 (by assumption) rfl (by decide) (by rfl) (by rfl) (Nat.le_of_ble_eq_true (by rfl)) (by decide) dX0_set_69 (c_X1_empty _ g _ (k + 2) hk2) (fun v M2 hz => ?_)
    obtain ⟨rfl, rfl⟩ := hz
    refine g_aload_n (pc := 72) F dX0_set_72 rfl ?_
    refine g_callV (pc := 73) (rf2 := 1) (rl2 := 22) F cs_X0_50 (by assumption) rfl (by decide) (by rfl) (by rfl) (Nat.le_of_ble_eq_true (by rfl)) (by decide) dX0_set_73 (c_X0_fillRound _ g _ k hk) (fun v M2 hz => ?_)
    obtain ⟨rfl, rfl⟩ := hz
    refine g_vret (pc := 76) F r dX0_set_76 ?_
    refine ⟨rfl, ?_⟩
    subst hM1
    unfold csetM
    simp only [updr_self, updr_ne _ _ (show k ≠ k + 2 by omega), updr_ne _ _ (show k + 1 ≠ k + 2 by omega), updr_ne _ _ (show k + 1 ≠ k by omega), updr_ne _ _ (show k + 2 ≠ k by omega), updr_ne _ _ (show k + 2 ≠ k + 1 by omega), updr_ne _ _ (show k + 3 ≠ k by omega), updr_ne _ _ (show k + 3 ≠ k + 1 by omega), updr_ne _ _ (show k + 3 ≠ k + 2 by omega)]
    rfl
  refine g_aload_n (pc := 0) F dX0_set_0 rfl ?_
  refine g_iload_n (pc := 1) F dX0_set_1 rfl ?_
  refine g_puti (pc := 2) F fl_X0_25 rfl rfl (by assumption) rfl dX0_set_2 ?_
  refine g_aload_n (pc := 5) F dX0_set_5 rfl ?_
  refine g_getr (pc := 6) F fl_X0_9 (by assumption) rfl dX0_set_6 ?_
  refine g_iconst (pc := 9) (v := 0) F dX0_set_9 (by decide) ?_
  refine g_iload_n (pc := 10) F dX0_set_10 rfl ?_
  refine g_iast (pc := 11) (q := 0) F (by assumption) rfl (by decide) (by decide) dX0_set_11 ?_
  refine g_aload_n (pc := 12) F dX0_set_12 rfl ?_
  refine g_getr (pc := 13) F fl_X0_9 (by assumption) rfl dX0_set_13 ?_
  refine g_iconst (pc := 16) (v := 1) F dX0_set_16 (by decide) ?_
  refine g_iload_n (pc := 17) F dX0_set_17 rfl ?_
  refine g_iast (pc := 18) (q := 1) F (by assumption) rfl (by decide) (by decide) dX0_set_18 ?_
  refine g_aload_n (pc := 19) F dX0_set_19 rfl ?_
  refine g_getr (pc := 20) F fl_X0_9 (by assumption) rfl dX0_set_20 ?_
  refine g_iconst (pc := 23) (v := 2) F dX0_set_23 (by decide) ?_
  refine g_iload (pc := 24) F dX0_set_24 rfl ?_
  refine g_iast (pc := 26) (q := 2) F (by assumption) rfl (by decide) (by decide) dX0_set_26 ?_
  refine g_aload_n (pc := 27) F dX0_set_27 rfl ?_
  refine g_getr (pc := 28) F fl_X0_9 (by assumption) rfl dX0_set_28 ?_
  refine g_iconst (pc := 31) (v := 3) F dX0_set_31 (by decide) ?_
  refine g_iload (pc := 32) F dX0_set_32 rfl ?_
  refine g_iast (pc := 34) (q := 3) F (by assumption) rfl (by decide) (by decide) dX0_set_34 ?_
  refine g_aload_n (pc := 35) F dX0_set_35 rfl ?_
  refine g_iconst (pc := 36) (v := -1) F dX0_set_36 (by decide) ?_
  refine g_puti (pc := 37) F fl_X0_29 rfl rfl (by assumption) rfl dX0_set_37 ?_
  refine g_aload_n (pc := 40) F dX0_set_40 rfl ?_
  refine g_iconst (pc := 41) (v := 0) F dX0_set_41 (by decide) ?_
  refine g_puti (pc := 42) F fl_X0_32 rfl rfl (by assumption) rfl dX0_set_42 ?_
  refine g_aload_n (pc := 45) F dX0_set_45 rfl ?_
  refine g_iconst (pc := 46) (v := 0) F dX0_set_46 (by decide) ?_
  refine g_puti (pc := 47) F fl_X0_35 rfl rfl (by assumption) rfl dX0_set_47 ?_
  refine g_aload_n (pc := 50) F dX0_set_50 rfl ?_
  refine g_iconst (pc := 51) (v := 0) F dX0_set_51 (by decide) ?_
  refine g_puti (pc := 52) F fl_X0_38 rfl rfl (by assumption) rfl dX0_set_52 ?_
  refine g_aload_n (pc := 55) F dX0_set_55 rfl ?_
  refine g_iconst (pc := 56) (v := 0) F dX0_set_56 (by decide) ?_
  refine g_puti (pc := 57) F fl_X0_41 rfl rfl (by assumption) rfl dX0_set_57 ?_
  refine g_aload_n (pc := 60) F dX0_set_60 rfl ?_
  refine g_iconst (pc := 61) (v := 0) F dX0_set_61 (by decide) ?_
  refine g_puti (pc := 62) F fl_X0_44 rfl rfl (by assumption) rfl dX0_set_62 ?_
  refine hA _ ?_
  funext x y
  simp only [upd2_get, updr_get, csetF, nset]
  by_cases h1 : x = k
  · subst h1
    simp only [if_true, show ¬ x = x + 1 by omega, show ¬ x + 1 = x by omega, if_false]
    by_cases h0 : y = 0 <;> by_cases h2 : y = 2 <;> by_cases h3 : y = 3 <;> by_cases h4 : y = 4 <;> by_cases h5 : y = 5 <;> by_cases h6 : y = 6 <;> by_cases h7 : y = 7 <;> simp [h0, h2, h3, h4, h5, h6, h7]
  · by_cases hx : x = k + 1
    · subst hx
      simp only [if_true, show ¬ k + 1 = k by omega, show ¬ k = k + 1 by omega, if_false]
      by_cases h0 : y = 0 <;> by_cases h2 : y = 2 <;> by_cases h3 : y = 3 <;> by_cases h4 : y = 1 <;> simp [h0, h2, h3, h4]
    · simp [h1, hx]

def ccpF (r r2 : Nat → Int32) : Nat → Int32 := fun j => if j = 0 then r2 0 else if j = 2 then r2 2 else if j = 3 then r2 3 else if j = 4 then r2 4 else if j = 5 then r2 5 else if j = 6 then r2 6 else if j = 7 then r2 7 else r j
def ccpM (M : Mem) (k o : Nat) : Mem := updr (updr (updr (updr M (k + 1) (va_cpy (M (o + 1)) (M (k + 1)) 0 0 4)) k (ccpF (M k) (M o))) (k + 2) (rcopy (M (k + 2)) (M (o + 2)))) (k + 3) (rcopy (M (k + 3)) (M (o + 3)))
set_option maxHeartbeats 4000000 in
set_option maxRecDepth 100000 in
theorem c_X0_copyFrom (l : Launch) (g : Gm) (M : Mem) (k o : Nat) (hk : kd k = 0) (ho : kd o = 0) (hd1 : k + 4 ≤ o ∨ o + 4 ≤ k) : Cn l yX0_copyFrom cX0_copyFrom 2 none 1 40 g [.ref (ad g k), .ref (ad g o)] M (fun v M2 => v = none ∧ M2 = ccpM M k o) := by
  refine Cn.intro (lv0 := [some (.ref (ad g k)), some (.ref (ad g o))]) 0 (by decide +kernel) (Nat.le_of_ble_eq_true rfl) rfl (fun X F r => ?_)
  obtain ⟨hk1, hk2, hk3⟩ := kd_clk hk
  obtain ⟨ho1, ho2, ho3⟩ := kd_clk ho
  have hA : ∀ (M1 : Mem), M1 = updr (updr M (k + 1) (va_cpy (M (o + 1)) (M (k + 1)) 0 0 4)) k (ccpF (M k) (M o)) → G X g 2 M1 70 [some (.ref (ad g k)), some (.ref (ad g o))] [] := by
    intro M1 hM1
    refine g_aload_n (pc := 70) F dX0_copyFrom_70 rfl ?_
    refine g_getr (pc := 71) F fl_X0_18 (by assumption) rfl dX0_copyFrom_71 ?_
    refine g_aload_n (pc := 74) F dX0_copyFrom_74 rfl ?_
    refine g_getr (pc := 75) F fl_X0_18 (by assumption) rfl dX0_copyFrom_75 ?_
    refine g_callV (pc := 78) (rf2 := 0) (rl2 := 0) F cs_X0_63 (by assumption) rfl (by decide) (by rfl) (by rfl) (Nat.le_of_ble_eq_true (by rfl)) (by decide) dX0_copyFrom_78 (c_X1_copyFrom _ g _ (k + 2) (o + 2) hk2 ho2 (by omega)) (fun v M2 hz => ?_)
    obtain ⟨rfl, rfl⟩ := hz
    refine g_aload_n (pc := 81) F dX0_copyFrom_81 rfl ?_
    refine g_getr (pc := 82) F fl_X0_22 (by assumption) rfl dX0_copyFrom_82 ?_
    refine g_aload_n (pc := 85) F dX0_copyFrom_85 rfl ?_
    refine g_getr (pc := 86) F fl_X0_22 (by assumption) rfl dX0_copyFrom_86 ?_
    refine g_callV (pc := 89) (rf2 := 0) (rl2 := 0) F cs_X0_63 (by assumption) rfl (by decide) (by rfl) (by rfl) (Nat.le_of_ble_eq_true (by rfl)) (by decide) dX0_copyFrom_89 (c_X1_copyFrom _ g _ (k + 3) (o + 3) hk3 ho3 (by omega)) (fun v M2 hz => ?_)
    obtain ⟨rfl, rfl⟩ := hz
    refine g_vret (pc := 92) F r dX0_copyFrom_92 ?_
    refine ⟨rfl, ?_⟩
    subst hM1
    unfold ccpM
    simp only [updr_ne _ _ (show k + 2 ≠ k by omega), updr_ne _ _ (show k + 2 ≠ k + 1 by omega), updr_ne _ _ (show k + 3 ≠ k by omega), updr_ne _ _ (show k + 3 ≠ k + 1 by omega), updr_ne _ _ (show k + 3 ≠ k + 2 by omega), updr_ne _ _ (show o + 2 ≠ k by omega), updr_ne _ _ (show o + 2 ≠ k + 1 by omega), updr_ne _ _ (show o + 3 ≠ k by omega), updr_ne _ _ (show o + 3 ≠ k + 1 by omega), updr_ne _ _ (show o + 3 ≠ k + 2 by omega)]
  refine g_aload_n (pc := 0) F dX0_copyFrom_0 rfl ?_
  refine g_aload_n (pc := 1) F dX0_copyFrom_1 rfl ?_
  refine g_geti (pc := 2) F fl_X0_25 (by assumption) rfl dX0_copyFrom_2 ?_
  refine g_puti (pc := 5) F fl_X0_25 rfl rfl (by assumption) rfl dX0_copyFrom_5 ?_
  refine g_aload_n (pc := 8) F dX0_copyFrom_8 rfl ?_
  refine g_getr (pc := 9) F fl_X0_9 (by assumption) rfl dX0_copyFrom_9 ?_
  refine g_iconst (pc := 12) (v := 0) F dX0_copyFrom_12 (by decide) ?_
  refine g_aload_n (pc := 13) F dX0_copyFrom_13 rfl ?_
  refine g_getr (pc := 14) F fl_X0_9 (by assumption) rfl dX0_copyFrom_14 ?_
  refine g_iconst (pc := 17) (v := 0) F dX0_copyFrom_17 (by decide) ?_
  refine g_iconst (pc := 18) (v := 4) F dX0_copyFrom_18 (by decide) ?_
  refine g_copy4 (pc := 19) F ho1 hk1 ⟨wl_X0_57, wn_arraycopy, wt_arraycopy, wz_J10⟩ (by decide) (by decide) dX0_copyFrom_19 ?_
  refine g_aload_n (pc := 22) F dX0_copyFrom_22 rfl ?_
  refine g_aload_n (pc := 23) F dX0_copyFrom_23 rfl ?_
  refine g_geti (pc := 24) F fl_X0_29 (by assumption) rfl dX0_copyFrom_24 ?_
  refine g_puti (pc := 27) F fl_X0_29 rfl rfl (by assumption) rfl dX0_copyFrom_27 ?_
  refine g_aload_n (pc := 30) F dX0_copyFrom_30 rfl ?_
  refine g_aload_n (pc := 31) F dX0_copyFrom_31 rfl ?_
  refine g_geti (pc := 32) F fl_X0_32 (by assumption) rfl dX0_copyFrom_32 ?_
  refine g_puti (pc := 35) F fl_X0_32 rfl rfl (by assumption) rfl dX0_copyFrom_35 ?_
  refine g_aload_n (pc := 38) F dX0_copyFrom_38 rfl ?_
  refine g_aload_n (pc := 39) F dX0_copyFrom_39 rfl ?_
  refine g_geti (pc := 40) F fl_X0_35 (by assumption) rfl dX0_copyFrom_40 ?_
  refine g_puti (pc := 43) F fl_X0_35 rfl rfl (by assumption) rfl dX0_copyFrom_43 ?_
  refine g_aload_n (pc := 46) F dX0_copyFrom_46 rfl ?_
  refine g_aload_n (pc := 47) F dX0_copyFrom_47 rfl ?_
  refine g_geti (pc := 48) F fl_X0_38 (by assumption) rfl dX0_copyFrom_48 ?_
  refine g_puti (pc := 51) F fl_X0_38 rfl rfl (by assumption) rfl dX0_copyFrom_51 ?_
  refine g_aload_n (pc := 54) F dX0_copyFrom_54 rfl ?_
  refine g_aload_n (pc := 55) F dX0_copyFrom_55 rfl ?_
  refine g_geti (pc := 56) F fl_X0_41 (by assumption) rfl dX0_copyFrom_56 ?_
  refine g_puti (pc := 59) F fl_X0_41 rfl rfl (by assumption) rfl dX0_copyFrom_59 ?_
  refine g_aload_n (pc := 62) F dX0_copyFrom_62 rfl ?_
  refine g_aload_n (pc := 63) F dX0_copyFrom_63 rfl ?_
  refine g_geti (pc := 64) F fl_X0_44 (by assumption) rfl dX0_copyFrom_64 ?_
  refine g_puti (pc := 67) F fl_X0_44 rfl rfl (by assumption) rfl dX0_copyFrom_67 ?_
  refine hA _ ?_
  funext x y
  have e1 : ¬ o = k := by omega
  have e2 : ¬ o = k + 1 := by omega
  simp only [upd2_get, updr_get, ccpF]
  by_cases h1 : x = k
  · subst h1
    simp only [if_true, show ¬ x = x + 1 by omega, show ¬ x + 1 = x by omega, if_false, e1, e2]
    by_cases h0 : y = 0 <;> by_cases h2 : y = 2 <;> by_cases h3 : y = 3 <;> by_cases h4 : y = 4 <;> by_cases h5 : y = 5 <;> by_cases h6 : y = 6 <;> by_cases h7 : y = 7 <;> simp [h0, h2, h3, h4, h5, h6, h7]
  · by_cases hx : x = k + 1
    · subst hx
      have e4 : ¬ o + 1 = k := by omega
      have e5 : upd2 M k 0 (M o 0) (o + 1) = M (o + 1) := upd2_k M 0 _ e4
      have e6 : upd2 M k 0 (M o 0) (k + 1) = M (k + 1) := upd2_k M 0 _ (by omega)
      simp only [if_true, show ¬ k + 1 = k by omega, show ¬ k = k + 1 by omega, if_false, e5, e6]
    · simp [h1, hx]

set_option maxHeartbeats 4000000 in
set_option maxRecDepth 100000 in
theorem c_X0_age (l : Launch) (g : Gm) (M : Mem) (k : Nat) (hk : kd k = 0) : Cn l yX0_age cX0_age 1 (some .int) 0 0 g [.ref (ad g k)] M (fun v M2 => v = some (.int (M k 3 - M k 4)) ∧ M2 = M) := by
  refine Cn.intro (lv0 := [some (.ref (ad g k))]) 0 (by decide +kernel) (Nat.le_of_ble_eq_true rfl) rfl (fun X F r => ?_)
  refine g_aload_n (pc := 0) F dX0_age_0 rfl ?_
  refine g_geti (pc := 1) F fl_X0_32 (by assumption) rfl dX0_age_1 ?_
  refine g_aload_n (pc := 4) F dX0_age_4 rfl ?_
  refine g_geti (pc := 5) F fl_X0_35 (by assumption) rfl dX0_age_5 ?_
  refine g_isub (pc := 8) F dX0_age_8 ?_
  refine g_iret (pc := 9) F r dX0_age_9 ?_
  exact ⟨rfl, rfl⟩

set_option maxHeartbeats 4000000 in
set_option maxRecDepth 100000 in
theorem c_X0_placeInTurn (l : Launch) (g : Gm) (M : Mem) (k : Nat) (hk : kd k = 0) : Cn l yX0_placeInTurn cX0_placeInTurn 1 (some .int) 0 0 g [.ref (ad g k)] M (fun v M2 => v = some (.int (if M k 2 + 1 < M (k + 3) 0 then M k 2 + 1 else 0)) ∧ M2 = M) := by
  refine Cn.intro (lv0 := [some (.ref (ad g k))]) 0 (by decide +kernel) (Nat.le_of_ble_eq_true rfl) rfl (fun X F r => ?_)
  obtain ⟨hk1, hk2, hk3⟩ := kd_clk hk
  refine g_aload_n (pc := 0) F dX0_placeInTurn_0 rfl ?_
  refine g_geti (pc := 1) F fl_X0_29 (by assumption) rfl dX0_placeInTurn_1 ?_
  refine g_iconst (pc := 4) (v := 1) F dX0_placeInTurn_4 (by decide) ?_
  refine g_iadd (pc := 5) F dX0_placeInTurn_5 ?_
  refine g_aload_n (pc := 6) F dX0_placeInTurn_6 rfl ?_
  refine g_getr (pc := 7) F fl_X0_22 (by assumption) rfl dX0_placeInTurn_7 ?_
  refine g_geti (pc := 10) F fl_X0_67 (by assumption) rfl dX0_placeInTurn_10 ?_
  refine g_icmp_ge (pc := 13) (tgt := 25) F dX0_placeInTurn_13 (by decide) (fun c13 => ?_) (fun c13 => ?_)
  · refine g_iconst (pc := 25) (v := 0) F dX0_placeInTurn_25 (by decide) ?_
    refine g_iret (pc := 26) F r dX0_placeInTurn_26 ?_
    refine ⟨?_, rfl⟩
    first | rw [if_neg (Int32.not_lt.mpr c13)] | rw [if_pos (Int32.not_le.mp c13)]
  · refine g_aload_n (pc := 16) F dX0_placeInTurn_16 rfl ?_
    refine g_geti (pc := 17) F fl_X0_29 (by assumption) rfl dX0_placeInTurn_17 ?_
    refine g_iconst (pc := 20) (v := 1) F dX0_placeInTurn_20 (by decide) ?_
    refine g_iadd (pc := 21) F dX0_placeInTurn_21 ?_
    refine g_goto (pc := 22) (tgt := 26) F dX0_placeInTurn_22 (by decide) ?_
    refine g_iret (pc := 26) F r dX0_placeInTurn_26 ?_
    refine ⟨?_, rfl⟩
    first | rw [if_neg (Int32.not_lt.mpr c13)] | rw [if_pos (Int32.not_le.mp c13)]

def gapF (la : Int32) (f : Nat → Int32) (p : Int32) : Int32 := if la = 2 then (if p < f 1 then f 0 else f 2) else if 0 ≤ p ∧ p < 4 then f p.toNatClampNeg else f 0
def cbegF (r : Nat → Int32) (p gp : Int32) : Nat → Int32 := fun j => if j = 2 then p else if j = 3 then gp else if j = 4 then gp else r j
theorem i_range4 {p : Int32} (h0 : 0 ≤ p) (h4 : p < 4) : ∃ q : Nat, q < 4 ∧ p = nI q := by
  have a1 := Int32.le_iff_toInt_le.mp h0
  have a2 := Int32.lt_iff_toInt_lt.mp h4
  have e0 : (0 : Int32).toInt = 0 := rfl
  have e4 : (4 : Int32).toInt = 4 := rfl
  exact vp_in_of (vp_in_iff.mpr ⟨by omega, by omega⟩) (by decide)
set_option maxHeartbeats 4000000 in
set_option maxRecDepth 100000 in
theorem c_X0_beginAt (l : Launch) (g : Gm) (M : Mem) (k : Nat) (hk : kd k = 0) (p : Int32) : Cn l yX0_beginAt cX0_beginAt 2 none 0 0 g [.ref (ad g k), .int p] M (fun v M2 => v = none ∧ M2 = updr M k (cbegF (M k) p (gapF (M k 0) (M (k + 1)) p))) := by
  refine Cn.intro (lv0 := [some (.ref (ad g k)), some (.int p)]) 0 (by decide +kernel) (Nat.le_of_ble_eq_true rfl) rfl (fun X F r => ?_)
  obtain ⟨hk1, hk2, hk3⟩ := kd_clk hk
  have hE : ∀ (gp : Int32) (M1 : Mem), gp = gapF (M k 0) (M (k + 1)) p → M1 = upd2 M k 2 p → ∀ pc : Nat, pc = 42 ∨ pc = 86 → G X g 2 M1 pc [some (.ref (ad g k)), some (.int p)] [.int gp, .ref (ad g k)] := by
    intro gp M1 hgp hM1 pc hpc
    have hF : ∀ M1 : Mem, M1 = upd2 (upd2 M k 2 p) k 3 gp → G X g 2 M1 89 [some (.ref (ad g k)), some (.int p)] [] := by
      intro M1 hM1
      refine g_aload_n (pc := 89) F dX0_beginAt_89 rfl ?_
      refine g_aload_n (pc := 90) F dX0_beginAt_90 rfl ?_
      refine g_geti (pc := 91) F fl_X0_32 (by assumption) rfl dX0_beginAt_91 ?_
      refine g_puti (pc := 94) F fl_X0_35 rfl rfl (by assumption) rfl dX0_beginAt_94 ?_
      refine g_vret (pc := 97) F r dX0_beginAt_97 ?_
      refine ⟨rfl, ?_⟩
      subst hM1
      simp only [upd2_updr, updr_upd2, updr_self, updr_updr, upd]
      refine congrArg (updr M k) (funext fun j => ?_)
      rw [← hgp]
      by_cases h2 : j = 2 <;> by_cases h3 : j = 3 <;> by_cases h4 : j = 4 <;> simp_all [cbegF, upd]
    rcases hpc with rfl | rfl
    · refine g_puti (pc := 42) F fl_X0_32 rfl rfl (by assumption) rfl dX0_beginAt_42 ?_
      refine g_goto (pc := 45) (tgt := 89) F dX0_beginAt_45 (by decide) ?_
      exact hF _ (by rw [hM1])
    · refine g_puti (pc := 86) F fl_X0_32 rfl rfl (by assumption) rfl dX0_beginAt_86 ?_
      exact hF _ (by rw [hM1])
  refine g_aload_n (pc := 0) F dX0_beginAt_0 rfl ?_
  refine g_iload_n (pc := 1) F dX0_beginAt_1 rfl ?_
  refine g_puti (pc := 2) F fl_X0_29 rfl rfl (by assumption) rfl dX0_beginAt_2 ?_
  refine g_aload_n (pc := 5) F dX0_beginAt_5 rfl ?_
  refine g_geti (pc := 6) F fl_X0_25 (by assumption) rfl dX0_beginAt_6 ?_
  refine g_iconst (pc := 9) (v := 2) F dX0_beginAt_9 (by decide) ?_
  refine g_icmp_ne (pc := 10) (tgt := 48) F dX0_beginAt_10 (by decide) (fun c10 => ?_) (fun c10 => ?_)
  · simp only [upd2_j M k p (show (0 : Nat) ≠ 2 by decide)] at c10
    refine g_aload_n (pc := 48) F dX0_beginAt_48 rfl ?_
    refine g_aload_n (pc := 49) F dX0_beginAt_49 rfl ?_
    refine g_geti (pc := 50) F fl_X0_29 (by assumption) rfl dX0_beginAt_50 ?_
    refine g_if_lt (pc := 53) (tgt := 80) F dX0_beginAt_53 (by decide) (fun c53 => ?_) (fun c53 => ?_)
    · simp only [upd2_self] at c53
      refine g_aload_n (pc := 80) F dX0_beginAt_80 rfl ?_
      refine g_getr (pc := 81) F fl_X0_9 (by assumption) rfl dX0_beginAt_81 ?_
      refine g_iconst (pc := 84) (v := 0) F dX0_beginAt_84 (by decide) ?_
      refine g_iald (pc := 85) (q := 0) F (by assumption) rfl (by decide) (by decide) dX0_beginAt_85 ?_
      refine hE _ _ ?_ rfl 86 (Or.inr rfl)
      simp only [upd2_k M 2 p (show k + 1 ≠ k by omega)]
      unfold gapF
      rw [if_neg c10]
      first | rw [if_neg (fun h => Int32.not_lt.mpr h.1 c53)] | rw [if_neg (fun h => Int32.not_le.mpr h.2 c65)] | (rw [if_pos ⟨Int32.not_lt.mp c53, Int32.not_le.mp c65⟩, hpq, nI_clamp (by omega)])
    · simp only [upd2_self] at c53
      refine g_aload_n (pc := 56) F dX0_beginAt_56 rfl ?_
      refine g_geti (pc := 57) F fl_X0_29 (by assumption) rfl dX0_beginAt_57 ?_
      refine g_aload_n (pc := 60) F dX0_beginAt_60 rfl ?_
      refine g_getr (pc := 61) F fl_X0_9 (by assumption) rfl dX0_beginAt_61 ?_
      refine g_alen (pc := 64) F (by assumption) rfl (v := 4) (by decide) dX0_beginAt_64 ?_
      refine g_icmp_ge (pc := 65) (tgt := 80) F dX0_beginAt_65 (by decide) (fun c65 => ?_) (fun c65 => ?_)
      · simp only [upd2_self] at c65
        refine g_aload_n (pc := 80) F dX0_beginAt_80 rfl ?_
        refine g_getr (pc := 81) F fl_X0_9 (by assumption) rfl dX0_beginAt_81 ?_
        refine g_iconst (pc := 84) (v := 0) F dX0_beginAt_84 (by decide) ?_
        refine g_iald (pc := 85) (q := 0) F (by assumption) rfl (by decide) (by decide) dX0_beginAt_85 ?_
        refine hE _ _ ?_ rfl 86 (Or.inr rfl)
        simp only [upd2_k M 2 p (show k + 1 ≠ k by omega)]
        unfold gapF
        rw [if_neg c10]
        first | rw [if_neg (fun h => Int32.not_lt.mpr h.1 c53)] | rw [if_neg (fun h => Int32.not_le.mpr h.2 c65)] | (rw [if_pos ⟨Int32.not_lt.mp c53, Int32.not_le.mp c65⟩, hpq, nI_clamp (by omega)])
      · simp only [upd2_self] at c65
        obtain ⟨q, hq, hpq⟩ := i_range4 (Int32.not_lt.mp c53) (Int32.not_le.mp c65)
        refine g_aload_n (pc := 68) F dX0_beginAt_68 rfl ?_
        refine g_getr (pc := 69) F fl_X0_9 (by assumption) rfl dX0_beginAt_69 ?_
        refine g_aload_n (pc := 72) F dX0_beginAt_72 rfl ?_
        refine g_geti (pc := 73) F fl_X0_29 (by assumption) rfl dX0_beginAt_73 ?_
        refine g_iald (pc := 76) (q := q) F (by assumption) rfl (by rw [upd2_self]; exact hpq) hq dX0_beginAt_76 ?_
        refine g_goto (pc := 77) (tgt := 86) F dX0_beginAt_77 (by decide) ?_
        refine hE _ _ ?_ rfl 86 (Or.inr rfl)
        simp only [upd2_k M 2 p (show k + 1 ≠ k by omega)]
        unfold gapF
        rw [if_neg c10]
        first | rw [if_neg (fun h => Int32.not_lt.mpr h.1 c53)] | rw [if_neg (fun h => Int32.not_le.mpr h.2 c65)] | (rw [if_pos ⟨Int32.not_lt.mp c53, Int32.not_le.mp c65⟩, hpq, nI_clamp (by omega)])
  · simp only [upd2_j M k p (show (0 : Nat) ≠ 2 by decide)] at c10
    refine g_aload_n (pc := 13) F dX0_beginAt_13 rfl ?_
    refine g_aload_n (pc := 14) F dX0_beginAt_14 rfl ?_
    refine g_geti (pc := 15) F fl_X0_29 (by assumption) rfl dX0_beginAt_15 ?_
    refine g_aload_n (pc := 18) F dX0_beginAt_18 rfl ?_
    refine g_getr (pc := 19) F fl_X0_9 (by assumption) rfl dX0_beginAt_19 ?_
    refine g_iconst (pc := 22) (v := 1) F dX0_beginAt_22 (by decide) ?_
    refine g_iald (pc := 23) (q := 1) F (by assumption) rfl (by decide) (by decide) dX0_beginAt_23 ?_
    refine g_icmp_ge (pc := 24) (tgt := 36) F dX0_beginAt_24 (by decide) (fun c24 => ?_) (fun c24 => ?_)
    · refine g_aload_n (pc := 36) F dX0_beginAt_36 rfl ?_
      refine g_getr (pc := 37) F fl_X0_9 (by assumption) rfl dX0_beginAt_37 ?_
      refine g_iconst (pc := 40) (v := 2) F dX0_beginAt_40 (by decide) ?_
      refine g_iald (pc := 41) (q := 2) F (by assumption) rfl (by decide) (by decide) dX0_beginAt_41 ?_
      refine hE _ _ ?_ rfl 42 (Or.inl rfl)
      simp only [upd2_self, upd2_j M k p (show (0 : Nat) ≠ 2 by decide), upd2_k M 2 p (show k + 1 ≠ k by omega)] at *
      unfold gapF
      rw [if_pos c10]
      first | rw [if_neg (Int32.not_lt.mpr c24)] | rw [if_pos (Int32.not_le.mp c24)]
    · refine g_aload_n (pc := 27) F dX0_beginAt_27 rfl ?_
      refine g_getr (pc := 28) F fl_X0_9 (by assumption) rfl dX0_beginAt_28 ?_
      refine g_iconst (pc := 31) (v := 0) F dX0_beginAt_31 (by decide) ?_
      refine g_iald (pc := 32) (q := 0) F (by assumption) rfl (by decide) (by decide) dX0_beginAt_32 ?_
      refine g_goto (pc := 33) (tgt := 42) F dX0_beginAt_33 (by decide) ?_
      refine hE _ _ ?_ rfl 42 (Or.inl rfl)
      simp only [upd2_self, upd2_j M k p (show (0 : Nat) ≠ 2 by decide), upd2_k M 2 p (show k + 1 ≠ k by omega)] at *
      unfold gapF
      rw [if_pos c10]
      first | rw [if_neg (Int32.not_lt.mpr c24)] | rw [if_pos (Int32.not_le.mp c24)]

def tickM (M : Mem) (k : Nat) : Mem := if M k 4 - 1 ≤ 0 then updr (updr M k (upd (M k) 4 (M k 4 - 1))) (k + 2) (radd (M (k + 2)) (M k 3) 1) else updr M k (upd (M k) 4 (M k 4 - 1))
set_option maxHeartbeats 4000000 in
set_option maxRecDepth 100000 in
theorem c_X0_passTick (l : Launch) (g : Gm) (M : Mem) (k : Nat) (hk : kd k = 0) : Cn l yX0_passTick cX0_passTick 1 (some .boolean) 1 22 g [.ref (ad g k)] M (fun v M2 => v = some (.int (b2i (M k 4 - 1 ≤ 0))) ∧ M2 = tickM M k) := by
  refine Cn.intro (lv0 := [some (.ref (ad g k))]) 0 (by decide +kernel) (Nat.le_of_ble_eq_true rfl) rfl (fun X F r => ?_)
  obtain ⟨hk1, hk2, hk3⟩ := kd_clk hk
  refine g_aload_n (pc := 0) F dX0_passTick_0 rfl ?_
  refine g_dup (pc := 1) F dX0_passTick_1 rfl ?_
  refine g_geti (pc := 2) F fl_X0_35 (by assumption) rfl dX0_passTick_2 ?_
  refine g_iconst (pc := 5) (v := 1) F dX0_passTick_5 (by decide) ?_
  refine g_isub (pc := 6) F dX0_passTick_6 ?_
  refine g_puti (pc := 7) F fl_X0_35 rfl rfl (by assumption) rfl dX0_passTick_7 ?_
  refine g_aload_n (pc := 10) F dX0_passTick_10 rfl ?_
  refine g_geti (pc := 11) F fl_X0_35 (by assumption) rfl dX0_passTick_11 ?_
  refine g_if_le (pc := 14) (tgt := 19) F dX0_passTick_14 (by decide) (fun c14 => ?_) (fun c14 => ?_)
  · rw [upd2_self] at c14
    refine g_aload_n (pc := 19) F dX0_passTick_19 rfl ?_
    refine g_getr (pc := 20) F fl_X0_18 (by assumption) rfl dX0_passTick_20 ?_
    refine g_aload_n (pc := 23) F dX0_passTick_23 rfl ?_
    refine g_geti (pc := 24) F fl_X0_32 (by assumption) rfl dX0_passTick_24 ?_
    refine g_iconst (pc := 27) (v := 1) F dX0_passTick_27 (by decide) ?_
    refine g_callV (pc := 28) (rf2 := 0) (rl2 := 0) F cs_X0_53 (by assumption) rfl (by decide) (by rfl) (by rfl) (Nat.le_of_ble_eq_true (by rfl)) (by decide) dX0_passTick_28 (c_X1_add _ g _ (k + 2) hk2 _ _) (fun v M2 hz => ?_)
    obtain ⟨rfl, rfl⟩ := hz
    refine g_iconst (pc := 31) (v := 1) F dX0_passTick_31 (by decide) ?_
    refine g_zret (pc := 32) F (by decide) r dX0_passTick_32 ?_
    unfold tickM b2i
    rw [if_pos c14, if_pos c14, upd2_updr, updr_ne _ _ (show k + 2 ≠ k by omega), updr_self]
    exact ⟨rfl, rfl⟩
  · rw [upd2_self] at c14
    refine g_iconst (pc := 17) (v := 0) F dX0_passTick_17 (by decide) ?_
    refine g_zret (pc := 18) F (by decide) r dX0_passTick_18 ?_
    unfold tickM b2i
    rw [if_neg c14, if_neg c14, upd2_updr]
    exact ⟨rfl, rfl⟩

/-- what a clock tells -/
def tellV (M : Mem) (k q : Nat) : Int32 := match q with
  | 0 => M k 0
  | 1 => M (k + 1) 0
  | 2 => M (k + 1) 1
  | 3 => M (k + 1) 2
  | 4 => M (k + 1) 3
  | 5 => M k 3
  | 6 => M k 3 - M k 4
  | 7 => M k 4
  | 8 => M (k + 2) 0
  | 9 => M (k + 2) 1
  | 10 => if M (k + 2) 0 = 0 then -1000004 else M (k + 2) 4
  | 11 => M k 5
  | 12 => M k 6
  | _ => M k 7
set_option maxHeartbeats 4000000 in
set_option maxRecDepth 100000 in
theorem c_X0_tell (l : Launch) (g : Gm) (M : Mem) (k : Nat) (hk : kd k = 0) (q : Nat) (hq : q < 14) : Cn l yX0_tell cX0_tell 2 (some .int) 1 20 g [.ref (ad g k), .int (nI q)] M (fun v M2 => v = some (.int (tellV M k q)) ∧ M2 = M) := by
  refine Cn.intro (lv0 := [some (.ref (ad g k)), some (.int (nI q))]) 0 (by decide +kernel) (Nat.le_of_ble_eq_true rfl) rfl (fun X F r => ?_)
  obtain ⟨hk1, hk2, hk3⟩ := kd_clk hk
  match q, hq with
  | 0, _ =>
      refine g_iload_n (pc := 0) F dX0_tell_0 rfl ?_
      refine g_iconst (pc := 1) (v := 1) F dX0_tell_1 (by decide) ?_
      refine g_icmp_lt (pc := 2) (tgt := 19) F dX0_tell_2 (by decide) (fun c2 => ?_) (fun c2 => ?_)
      · refine g_iload_n (pc := 19) F dX0_tell_19 rfl ?_
        refine g_tableIn (pc := 20) (tgt := 88) F dX0_tell_20 (by decide) (by decide) (by rfl) (by decide) ?_
        refine g_aload_n (pc := 88) F dX0_tell_88 rfl ?_
        refine g_geti (pc := 89) F fl_X0_25 (by assumption) rfl dX0_tell_89 ?_
        refine g_iret (pc := 92) F r dX0_tell_92 ?_
        exact ⟨rfl, rfl⟩
      · exact absurd (by decide) c2
  | 1, _ =>
      refine g_iload_n (pc := 0) F dX0_tell_0 rfl ?_
      refine g_iconst (pc := 1) (v := 1) F dX0_tell_1 (by decide) ?_
      refine g_icmp_lt (pc := 2) (tgt := 19) F dX0_tell_2 (by decide) (fun c2 => ?_) (fun c2 => ?_)
      · exact absurd c2 (by decide)
      · refine g_iload_n (pc := 5) F dX0_tell_5 rfl ?_
        refine g_iconst (pc := 6) (v := 4) F dX0_tell_6 (by decide) ?_
        refine g_icmp_gt (pc := 7) (tgt := 19) F dX0_tell_7 (by decide) (fun c7 => ?_) (fun c7 => ?_)
        · exact absurd c7 (by decide)
        · refine g_aload_n (pc := 10) F dX0_tell_10 rfl ?_
          refine g_getr (pc := 11) F fl_X0_9 (by assumption) rfl dX0_tell_11 ?_
          refine g_iload_n (pc := 14) F dX0_tell_14 rfl ?_
          refine g_iconst (pc := 15) (v := 1) F dX0_tell_15 (by decide) ?_
          refine g_isub (pc := 16) F dX0_tell_16 ?_
          refine g_iald (pc := 17) (q := 0) F (by assumption) rfl (by decide) (by decide) dX0_tell_17 ?_
          refine g_iret (pc := 18) F r dX0_tell_18 ?_
          exact ⟨rfl, rfl⟩
  | 2, _ =>
      refine g_iload_n (pc := 0) F dX0_tell_0 rfl ?_
      refine g_iconst (pc := 1) (v := 1) F dX0_tell_1 (by decide) ?_
      refine g_icmp_lt (pc := 2) (tgt := 19) F dX0_tell_2 (by decide) (fun c2 => ?_) (fun c2 => ?_)
      · exact absurd c2 (by decide)
      · refine g_iload_n (pc := 5) F dX0_tell_5 rfl ?_
        refine g_iconst (pc := 6) (v := 4) F dX0_tell_6 (by decide) ?_
        refine g_icmp_gt (pc := 7) (tgt := 19) F dX0_tell_7 (by decide) (fun c7 => ?_) (fun c7 => ?_)
        · exact absurd c7 (by decide)
        · refine g_aload_n (pc := 10) F dX0_tell_10 rfl ?_
          refine g_getr (pc := 11) F fl_X0_9 (by assumption) rfl dX0_tell_11 ?_
          refine g_iload_n (pc := 14) F dX0_tell_14 rfl ?_
          refine g_iconst (pc := 15) (v := 1) F dX0_tell_15 (by decide) ?_
          refine g_isub (pc := 16) F dX0_tell_16 ?_
          refine g_iald (pc := 17) (q := 1) F (by assumption) rfl (by decide) (by decide) dX0_tell_17 ?_
          refine g_iret (pc := 18) F r dX0_tell_18 ?_
          exact ⟨rfl, rfl⟩
  | 3, _ =>
      refine g_iload_n (pc := 0) F dX0_tell_0 rfl ?_
      refine g_iconst (pc := 1) (v := 1) F dX0_tell_1 (by decide) ?_
      refine g_icmp_lt (pc := 2) (tgt := 19) F dX0_tell_2 (by decide) (fun c2 => ?_) (fun c2 => ?_)
      · exact absurd c2 (by decide)
      · refine g_iload_n (pc := 5) F dX0_tell_5 rfl ?_
        refine g_iconst (pc := 6) (v := 4) F dX0_tell_6 (by decide) ?_
        refine g_icmp_gt (pc := 7) (tgt := 19) F dX0_tell_7 (by decide) (fun c7 => ?_) (fun c7 => ?_)
        · exact absurd c7 (by decide)
        · refine g_aload_n (pc := 10) F dX0_tell_10 rfl ?_
          refine g_getr (pc := 11) F fl_X0_9 (by assumption) rfl dX0_tell_11 ?_
          refine g_iload_n (pc := 14) F dX0_tell_14 rfl ?_
          refine g_iconst (pc := 15) (v := 1) F dX0_tell_15 (by decide) ?_
          refine g_isub (pc := 16) F dX0_tell_16 ?_
          refine g_iald (pc := 17) (q := 2) F (by assumption) rfl (by decide) (by decide) dX0_tell_17 ?_
          refine g_iret (pc := 18) F r dX0_tell_18 ?_
          exact ⟨rfl, rfl⟩
  | 4, _ =>
      refine g_iload_n (pc := 0) F dX0_tell_0 rfl ?_
      refine g_iconst (pc := 1) (v := 1) F dX0_tell_1 (by decide) ?_
      refine g_icmp_lt (pc := 2) (tgt := 19) F dX0_tell_2 (by decide) (fun c2 => ?_) (fun c2 => ?_)
      · exact absurd c2 (by decide)
      · refine g_iload_n (pc := 5) F dX0_tell_5 rfl ?_
        refine g_iconst (pc := 6) (v := 4) F dX0_tell_6 (by decide) ?_
        refine g_icmp_gt (pc := 7) (tgt := 19) F dX0_tell_7 (by decide) (fun c7 => ?_) (fun c7 => ?_)
        · exact absurd c7 (by decide)
        · refine g_aload_n (pc := 10) F dX0_tell_10 rfl ?_
          refine g_getr (pc := 11) F fl_X0_9 (by assumption) rfl dX0_tell_11 ?_
          refine g_iload_n (pc := 14) F dX0_tell_14 rfl ?_
          refine g_iconst (pc := 15) (v := 1) F dX0_tell_15 (by decide) ?_
          refine g_isub (pc := 16) F dX0_tell_16 ?_
          refine g_iald (pc := 17) (q := 3) F (by assumption) rfl (by decide) (by decide) dX0_tell_17 ?_
          refine g_iret (pc := 18) F r dX0_tell_18 ?_
          exact ⟨rfl, rfl⟩
  | 5, _ =>
      refine g_iload_n (pc := 0) F dX0_tell_0 rfl ?_
      refine g_iconst (pc := 1) (v := 1) F dX0_tell_1 (by decide) ?_
      refine g_icmp_lt (pc := 2) (tgt := 19) F dX0_tell_2 (by decide) (fun c2 => ?_) (fun c2 => ?_)
      · exact absurd c2 (by decide)
      · refine g_iload_n (pc := 5) F dX0_tell_5 rfl ?_
        refine g_iconst (pc := 6) (v := 4) F dX0_tell_6 (by decide) ?_
        refine g_icmp_gt (pc := 7) (tgt := 19) F dX0_tell_7 (by decide) (fun c7 => ?_) (fun c7 => ?_)
        · refine g_iload_n (pc := 19) F dX0_tell_19 rfl ?_
          refine g_tableIn (pc := 20) (tgt := 93) F dX0_tell_20 (by decide) (by decide) (by rfl) (by decide) ?_
          refine g_aload_n (pc := 93) F dX0_tell_93 rfl ?_
          refine g_geti (pc := 94) F fl_X0_32 (by assumption) rfl dX0_tell_94 ?_
          refine g_iret (pc := 97) F r dX0_tell_97 ?_
          exact ⟨rfl, rfl⟩
        · exact absurd (by decide) c7
  | 6, _ =>
      refine g_iload_n (pc := 0) F dX0_tell_0 rfl ?_
      refine g_iconst (pc := 1) (v := 1) F dX0_tell_1 (by decide) ?_
      refine g_icmp_lt (pc := 2) (tgt := 19) F dX0_tell_2 (by decide) (fun c2 => ?_) (fun c2 => ?_)
      · exact absurd c2 (by decide)
      · refine g_iload_n (pc := 5) F dX0_tell_5 rfl ?_
        refine g_iconst (pc := 6) (v := 4) F dX0_tell_6 (by decide) ?_
        refine g_icmp_gt (pc := 7) (tgt := 19) F dX0_tell_7 (by decide) (fun c7 => ?_) (fun c7 => ?_)
        · refine g_iload_n (pc := 19) F dX0_tell_19 rfl ?_
          refine g_tableIn (pc := 20) (tgt := 98) F dX0_tell_20 (by decide) (by decide) (by rfl) (by decide) ?_
          refine g_aload_n (pc := 98) F dX0_tell_98 rfl ?_
          refine g_callV (pc := 99) (rf2 := 0) (rl2 := 0) F cs_X0_70 (by assumption) rfl (by decide) (by rfl) (by rfl) (Nat.le_of_ble_eq_true (by rfl)) (by decide) dX0_tell_99 (c_X0_age _ g _ k hk) (fun v M2 hz => ?_)
          obtain ⟨rfl, h2⟩ := hz
          rw [h2]
          refine g_iret (pc := 102) F r dX0_tell_102 ?_
          exact ⟨rfl, rfl⟩
        · exact absurd (by decide) c7
  | 7, _ =>
      refine g_iload_n (pc := 0) F dX0_tell_0 rfl ?_
      refine g_iconst (pc := 1) (v := 1) F dX0_tell_1 (by decide) ?_
      refine g_icmp_lt (pc := 2) (tgt := 19) F dX0_tell_2 (by decide) (fun c2 => ?_) (fun c2 => ?_)
      · exact absurd c2 (by decide)
      · refine g_iload_n (pc := 5) F dX0_tell_5 rfl ?_
        refine g_iconst (pc := 6) (v := 4) F dX0_tell_6 (by decide) ?_
        refine g_icmp_gt (pc := 7) (tgt := 19) F dX0_tell_7 (by decide) (fun c7 => ?_) (fun c7 => ?_)
        · refine g_iload_n (pc := 19) F dX0_tell_19 rfl ?_
          refine g_tableIn (pc := 20) (tgt := 103) F dX0_tell_20 (by decide) (by decide) (by rfl) (by decide) ?_
          refine g_aload_n (pc := 103) F dX0_tell_103 rfl ?_
          refine g_geti (pc := 104) F fl_X0_35 (by assumption) rfl dX0_tell_104 ?_
          refine g_iret (pc := 107) F r dX0_tell_107 ?_
          exact ⟨rfl, rfl⟩
        · exact absurd (by decide) c7
  | 8, _ =>
      refine g_iload_n (pc := 0) F dX0_tell_0 rfl ?_
      refine g_iconst (pc := 1) (v := 1) F dX0_tell_1 (by decide) ?_
      refine g_icmp_lt (pc := 2) (tgt := 19) F dX0_tell_2 (by decide) (fun c2 => ?_) (fun c2 => ?_)
      · exact absurd c2 (by decide)
      · refine g_iload_n (pc := 5) F dX0_tell_5 rfl ?_
        refine g_iconst (pc := 6) (v := 4) F dX0_tell_6 (by decide) ?_
        refine g_icmp_gt (pc := 7) (tgt := 19) F dX0_tell_7 (by decide) (fun c7 => ?_) (fun c7 => ?_)
        · refine g_iload_n (pc := 19) F dX0_tell_19 rfl ?_
          refine g_tableIn (pc := 20) (tgt := 108) F dX0_tell_20 (by decide) (by decide) (by rfl) (by decide) ?_
          refine g_aload_n (pc := 108) F dX0_tell_108 rfl ?_
          refine g_getr (pc := 109) F fl_X0_18 (by assumption) rfl dX0_tell_109 ?_
          refine g_geti (pc := 112) F fl_X0_67 (by assumption) rfl dX0_tell_112 ?_
          refine g_iret (pc := 115) F r dX0_tell_115 ?_
          exact ⟨rfl, rfl⟩
        · exact absurd (by decide) c7
  | 9, _ =>
      refine g_iload_n (pc := 0) F dX0_tell_0 rfl ?_
      refine g_iconst (pc := 1) (v := 1) F dX0_tell_1 (by decide) ?_
      refine g_icmp_lt (pc := 2) (tgt := 19) F dX0_tell_2 (by decide) (fun c2 => ?_) (fun c2 => ?_)
      · exact absurd c2 (by decide)
      · refine g_iload_n (pc := 5) F dX0_tell_5 rfl ?_
        refine g_iconst (pc := 6) (v := 4) F dX0_tell_6 (by decide) ?_
        refine g_icmp_gt (pc := 7) (tgt := 19) F dX0_tell_7 (by decide) (fun c7 => ?_) (fun c7 => ?_)
        · refine g_iload_n (pc := 19) F dX0_tell_19 rfl ?_
          refine g_tableIn (pc := 20) (tgt := 116) F dX0_tell_20 (by decide) (by decide) (by rfl) (by decide) ?_
          refine g_aload_n (pc := 116) F dX0_tell_116 rfl ?_
          refine g_getr (pc := 117) F fl_X0_18 (by assumption) rfl dX0_tell_117 ?_
          refine g_geti (pc := 120) F fl_X0_74 (by assumption) rfl dX0_tell_120 ?_
          refine g_iret (pc := 123) F r dX0_tell_123 ?_
          exact ⟨rfl, rfl⟩
        · exact absurd (by decide) c7
  | 10, _ =>
      refine g_iload_n (pc := 0) F dX0_tell_0 rfl ?_
      refine g_iconst (pc := 1) (v := 1) F dX0_tell_1 (by decide) ?_
      refine g_icmp_lt (pc := 2) (tgt := 19) F dX0_tell_2 (by decide) (fun c2 => ?_) (fun c2 => ?_)
      · exact absurd c2 (by decide)
      · refine g_iload_n (pc := 5) F dX0_tell_5 rfl ?_
        refine g_iconst (pc := 6) (v := 4) F dX0_tell_6 (by decide) ?_
        refine g_icmp_gt (pc := 7) (tgt := 19) F dX0_tell_7 (by decide) (fun c7 => ?_) (fun c7 => ?_)
        · refine g_iload_n (pc := 19) F dX0_tell_19 rfl ?_
          refine g_tableIn (pc := 20) (tgt := 124) F dX0_tell_20 (by decide) (by decide) (by rfl) (by decide) ?_
          refine g_aload_n (pc := 124) F dX0_tell_124 rfl ?_
          refine g_getr (pc := 125) F fl_X0_18 (by assumption) rfl dX0_tell_125 ?_
          refine g_geti (pc := 128) F fl_X0_67 (by assumption) rfl dX0_tell_128 ?_
          refine g_if_ne (pc := 131) (tgt := 139) F dX0_tell_131 (by decide) (fun c131 => ?_) (fun c131 => ?_)
          · refine g_aload_n (pc := 139) F dX0_tell_139 rfl ?_
            refine g_getr (pc := 140) F fl_X0_18 (by assumption) rfl dX0_tell_140 ?_
            refine g_geti (pc := 143) F fl_X0_78 (by assumption) rfl dX0_tell_143 ?_
            refine g_iret (pc := 146) F r dX0_tell_146 ?_
            refine ⟨?_, rfl⟩
            show some (Value.int _) = some (Value.int (if M (k + 2) 0 = 0 then -1000004 else M (k + 2) 4))
            first | rw [if_neg c131] | rw [if_pos c131]
          · refine g_ldc (pc := 134) F wk_X0_77 dX0_tell_134 ?_
            refine g_goto (pc := 136) (tgt := 146) F dX0_tell_136 (by decide) ?_
            refine g_iret (pc := 146) F r dX0_tell_146 ?_
            refine ⟨?_, rfl⟩
            show some (Value.int _) = some (Value.int (if M (k + 2) 0 = 0 then -1000004 else M (k + 2) 4))
            first | rw [if_neg c131] | rw [if_pos c131]
        · exact absurd (by decide) c7
  | 11, _ =>
      refine g_iload_n (pc := 0) F dX0_tell_0 rfl ?_
      refine g_iconst (pc := 1) (v := 1) F dX0_tell_1 (by decide) ?_
      refine g_icmp_lt (pc := 2) (tgt := 19) F dX0_tell_2 (by decide) (fun c2 => ?_) (fun c2 => ?_)
      · exact absurd c2 (by decide)
      · refine g_iload_n (pc := 5) F dX0_tell_5 rfl ?_
        refine g_iconst (pc := 6) (v := 4) F dX0_tell_6 (by decide) ?_
        refine g_icmp_gt (pc := 7) (tgt := 19) F dX0_tell_7 (by decide) (fun c7 => ?_) (fun c7 => ?_)
        · refine g_iload_n (pc := 19) F dX0_tell_19 rfl ?_
          refine g_tableIn (pc := 20) (tgt := 147) F dX0_tell_20 (by decide) (by decide) (by rfl) (by decide) ?_
          refine g_aload_n (pc := 147) F dX0_tell_147 rfl ?_
          refine g_geti (pc := 148) F fl_X0_38 (by assumption) rfl dX0_tell_148 ?_
          refine g_iret (pc := 151) F r dX0_tell_151 ?_
          exact ⟨rfl, rfl⟩
        · exact absurd (by decide) c7
  | 12, _ =>
      refine g_iload_n (pc := 0) F dX0_tell_0 rfl ?_
      refine g_iconst (pc := 1) (v := 1) F dX0_tell_1 (by decide) ?_
      refine g_icmp_lt (pc := 2) (tgt := 19) F dX0_tell_2 (by decide) (fun c2 => ?_) (fun c2 => ?_)
      · exact absurd c2 (by decide)
      · refine g_iload_n (pc := 5) F dX0_tell_5 rfl ?_
        refine g_iconst (pc := 6) (v := 4) F dX0_tell_6 (by decide) ?_
        refine g_icmp_gt (pc := 7) (tgt := 19) F dX0_tell_7 (by decide) (fun c7 => ?_) (fun c7 => ?_)
        · refine g_iload_n (pc := 19) F dX0_tell_19 rfl ?_
          refine g_tableIn (pc := 20) (tgt := 152) F dX0_tell_20 (by decide) (by decide) (by rfl) (by decide) ?_
          refine g_aload_n (pc := 152) F dX0_tell_152 rfl ?_
          refine g_geti (pc := 153) F fl_X0_41 (by assumption) rfl dX0_tell_153 ?_
          refine g_iret (pc := 156) F r dX0_tell_156 ?_
          exact ⟨rfl, rfl⟩
        · exact absurd (by decide) c7
  | 13, _ =>
      refine g_iload_n (pc := 0) F dX0_tell_0 rfl ?_
      refine g_iconst (pc := 1) (v := 1) F dX0_tell_1 (by decide) ?_
      refine g_icmp_lt (pc := 2) (tgt := 19) F dX0_tell_2 (by decide) (fun c2 => ?_) (fun c2 => ?_)
      · exact absurd c2 (by decide)
      · refine g_iload_n (pc := 5) F dX0_tell_5 rfl ?_
        refine g_iconst (pc := 6) (v := 4) F dX0_tell_6 (by decide) ?_
        refine g_icmp_gt (pc := 7) (tgt := 19) F dX0_tell_7 (by decide) (fun c7 => ?_) (fun c7 => ?_)
        · refine g_iload_n (pc := 19) F dX0_tell_19 rfl ?_
          refine g_tableOut (pc := 20) (tgt := 157) F dX0_tell_20 (by decide) (by decide) ?_
          refine g_aload_n (pc := 157) F dX0_tell_157 rfl ?_
          refine g_geti (pc := 158) F fl_X0_44 (by assumption) rfl dX0_tell_158 ?_
          refine g_iret (pc := 161) F r dX0_tell_161 ?_
          exact ⟨rfl, rfl⟩
        · exact absurd (by decide) c7
end
section
/-! WHAT A STATE IS: a hall as the check has it, 110 numbers: counts, tick, x, clocks by fifteen from 4 on, groups by four from 94 on. -/
theorem nI_mul (a b : Nat) : nI a * nI b = nI (a * b) := (Int32.ofNat_mul a b).symm
theorem nI_sub {a b : Nat} (h : b ≤ a) : nI a - nI b = nI (a - b) := by
  have h1 : nI a = nI (a - b) + nI b := by rw [nI_add, Nat.sub_add_cancel h]
  rw [Int32.sub_eq_iff_eq_add]
  exact h1
theorem upd_self (f : Nat → Int32) (k : Nat) (x : Int32) : upd f k x k = x := by simp [upd]
theorem upd_ne (f : Nat → Int32) {k j : Nat} (x : Int32) (h : j ≠ k) : upd f k x j = f j := by simp [upd, h]
theorem upd_get (f : Nat → Int32) (k j : Nat) (x : Int32) : upd f k x j = if j = k then x else f j := rfl
abbrev SV : Type := Nat → Int32
/-- a clock's fifteen: 0 law, 1..4 a, b, c, d, 5 place, 6 gap, 7 age, 8 told, 9 sum, 10 squares, 11 longest, 12 passengers, 13 waited, 14 wound -/
def cw (S : SV) (i : Nat) : Nat → Int32 := fun j => S (4 + 15 * i + j)
def gw (S : SV) (i : Nat) : Nat → Int32 := fun j => S (94 + 4 * i + j)
def setC (S : SV) (i : Nat) (w : Nat → Int32) : SV := fun k => if 4 + 15 * i ≤ k ∧ k < 19 + 15 * i then w (k - (4 + 15 * i)) else S k
def setGr (S : SV) (i : Nat) (w : Nat → Int32) : SV := fun k => if 94 + 4 * i ≤ k ∧ k < 98 + 4 * i then w (k - (94 + 4 * i)) else S k
def cn (S : SV) : Nat := (S 0).toNatClampNeg
def gn (S : SV) : Nat := (S 1).toNatClampNeg
theorem cw_setC (S : SV) (i : Nat) (w : Nat → Int32) {j : Nat} (hj : j < 15) : cw (setC S i w) i j = w j := by
  unfold cw setC
  rw [if_pos (by omega)]
  congr 1
  omega
theorem cw_setC_ne (S : SV) {i i' : Nat} (w : Nat → Int32) {j : Nat} (hj : j < 15) (h : i' ≠ i) : cw (setC S i w) i' j = cw S i' j := by
  unfold cw setC
  rw [if_neg (by omega)]
theorem gw_setC (S : SV) {i : Nat} (w : Nat → Int32) (hi : i < 6) (k j : Nat) : gw (setC S i w) k j = gw S k j := by
  unfold gw setC
  rw [if_neg (by omega)]
theorem setC_lo (S : SV) (i : Nat) (w : Nat → Int32) {k : Nat} (hk : k < 4) : setC S i w k = S k := by
  unfold setC
  rw [if_neg (by omega)]
theorem cw_upd_lo (S : SV) (i : Nat) {k : Nat} (v : Int32) (hk : k < 4) : cw (upd S k v) i = cw S i := by
  funext j
  unfold cw
  rw [upd_ne _ _ (by omega)]
theorem gw_upd_lo (S : SV) (i : Nat) {k : Nat} (v : Int32) (hk : k < 4) : gw (upd S k v) i = gw S i := by
  funext j
  unfold gw
  rw [upd_ne _ _ (by omega)]
theorem gw_setGr (S : SV) (i : Nat) (w : Nat → Int32) {j : Nat} (hj : j < 4) : gw (setGr S i w) i j = w j := by
  unfold gw setGr
  rw [if_pos (by omega)]
  congr 1
  omega
theorem gw_setGr_ne (S : SV) {i i' : Nat} (w : Nat → Int32) {j : Nat} (hj : j < 4) (h : i' ≠ i) : gw (setGr S i w) i' j = gw S i' j := by
  unfold gw setGr
  rw [if_neg (by omega)]
theorem cw_setGr (S : SV) (i : Nat) (w : Nat → Int32) {k : Nat} (hk : k < 6) {j : Nat} (hj : j < 15) : cw (setGr S i w) k j = cw S k j := by
  unfold cw setGr
  rw [if_neg (by omega)]
theorem setGr_lo (S : SV) (i : Nat) (w : Nat → Int32) {k : Nat} (hk : k < 4) : setGr S i w k = S k := by
  unfold setGr
  rw [if_neg (by omega)]
/-! a clock's gaps -/
def places (w : Nat → Int32) : Int32 := if w 0 = 2 then w 2 + 1 else (if 0 < w 1 then 1 else 0) + (if 0 < w 2 then 1 else 0) + (if 0 < w 3 then 1 else 0) + (if 0 < w 4 then 1 else 0)
def gapAt (w : Nat → Int32) (p : Int32) : Int32 := if w 0 = 2 then (if p < w 2 then w 1 else w 3) else w (1 + p.toNatClampNeg)
def xnext (x : Int32) : Int32 := jrem (x * 421 + 1663) 10000
def bx (w : Nat → Int32) (x : Int32) : Int32 := if w 0 = 1 then xnext x else x
def bplace (w : Nat → Int32) (x next : Int32) : Int32 := if w 0 = 1 then jrem (xnext x) (places w) else jrem next (places w)
def bw (w : Nat → Int32) (x next : Int32) : Nat → Int32 := upd (upd (upd w 5 (bplace w x next)) 6 (gapAt w (bplace w x next))) 7 0
/-- clock i begins its next gap -/
def beg (S : SV) (i : Nat) (next : Int32) : SV := upd (setC S i (bw (cw S i) (S 3) next)) 3 (bx (cw S i) (S 3))
/-- clock w has told its gap -/
def tw (w : Nat → Int32) : Nat → Int32 := upd (upd (upd (upd w 8 (w 8 + 1)) 9 (w 9 + w 6)) 10 (w 10 + w 6 * w 6)) 11 (if w 6 < w 11 then w 11 else w 6)
def ow (w : Nat → Int32) : Nat → Int32 := upd w 7 (w 7 + 1)
/-- does clock i tell a gap with the tick that ends now -/
abbrev tC (S : SV) (i : Nat) : Prop := cw S i 6 - (cw S i 7 + 1) = 0
def sC (S : SV) (i : Nat) : SV := if tC S i then beg (setC S i (tw (ow (cw S i)))) i (cw S i 5 + 1) else setC S i (ow (cw S i))
def eC (S : SV) : Nat → SV × Int32
  | 0 => (S, 0)
  | i + 1 => (sC (eC S i).1 i, if tC (eC S i).1 i then (eC S i).2 ||| (1 <<< (nI i &&& 31)) else (eC S i).2)
def eG (S : SV) (z : Int32) : Nat → SV
  | 0 => S
  | i + 1 => setGr (eG S z i) i (gtick (gw (eG S z i) i) z)
/-- a tick ends -/
def ends (S : SV) : SV := upd (eG (eC S (cn S)).1 (eC S (cn S)).2 (gn S)) 2 (S 2 + 1)
/-- the clocks that tell a gap with it, as a set -/
def endsZ (S : SV) : Int32 := (eC S (cn S)).2
/-! what holds of every state -/
def NP (la b c d : Nat) : Nat := if la = 2 then b + 1 else 1 + (if 0 < b then 1 else 0) + (if 0 < c then 1 else 0) + (if 0 < d then 1 else 0)
/-- a law and its numbers -/
def LI (w : Nat → Int32) (la a b c d : Nat) : Prop := w 0 = nI la ∧ w 1 = nI a ∧ w 2 = nI b ∧ w 3 = nI c ∧ w 4 = nI d ∧ la ≤ 2 ∧ 1 ≤ a ∧ a ≤ 50 ∧ b ≤ 50 ∧ c ≤ 50 ∧ d ≤ 50 ∧ (la = 2 → 1 ≤ b ∧ 1 ≤ c ∧ d = 0) ∧ (la ≠ 2 → (b = 0 → c = 0) ∧ (c = 0 → d = 0))
/-- of the gaps told: their squares, their number -/
def TP (w : Nat → Int32) (sm sq : Nat) : Prop := sq ≤ 50 * sm ∧ ∃ k, w 8 = nI k ∧ k ≤ sm ∧ sm ≤ sq
theorem TP_congr {w w' : Nat → Int32} {sm sq : Nat} (h : TP w sm sq) (e : w' 8 = w 8) : TP w' sm sq := ⟨h.1, by rw [e]; exact h.2⟩
/-- a clock at the tick t -/
def CI (w : Nat → Int32) (t : Nat) : Prop := ∃ (la a b c d p gp ag sm sq : Nat), LI w la a b c d ∧ w 5 = nI p ∧ p < NP la b c d ∧ w 6 = nI gp ∧ 1 ≤ gp ∧ gp ≤ 50 ∧ w 7 = nI ag ∧ ag < gp ∧ w 9 = nI sm ∧ sm + ag ≤ t ∧ w 10 = nI sq ∧ TP w sm sq
def pop6 (z : Nat) : Nat := z % 2 + z / 2 % 2 + z / 4 % 2 + z / 8 % 2 + z / 16 % 2 + z / 32 % 2
def GI (r : Nat → Int32) (t : Nat) : Prop := ∃ (la z mt : Nat), r 0 = nI la ∧ la ≤ 2 ∧ r 1 = nI z ∧ z < 64 ∧ pop6 z ≤ 4 ∧ r 3 = nI mt ∧ mt ≤ t
def Inv (S : SV) (t : Nat) : Prop := (∃ n, n ≤ 6 ∧ S 0 = nI n) ∧ (∃ m, m ≤ 4 ∧ S 1 = nI m) ∧ S 2 = nI t ∧ t ≤ 100200 ∧ (∃ x, x < 10000 ∧ S 3 = nI x) ∧ (∀ i, i < cn S → CI (cw S i) t) ∧ ∀ i, i < gn S → GI (gw S i) t
theorem cn_of {S : SV} {n : Nat} (h : S 0 = nI n) (hn : n ≤ 6) : cn S = n := by unfold cn; rw [h, nI_clamp (by omega)]
theorem gn_of {S : SV} {n : Nat} (h : S 1 = nI n) (hn : n ≤ 4) : gn S = n := by unfold gn; rw [h, nI_clamp (by omega)]
theorem Inv.cn_le {S : SV} {t : Nat} (h : Inv S t) : cn S ≤ 6 ∧ S 0 = nI (cn S) := by
  obtain ⟨⟨n, hn, h0⟩, -⟩ := h
  rw [cn_of h0 hn]
  exact ⟨hn, h0⟩
theorem Inv.gn_le {S : SV} {t : Nat} (h : Inv S t) : gn S ≤ 4 ∧ S 1 = nI (gn S) := by
  obtain ⟨-, ⟨n, hn, h0⟩, -⟩ := h
  rw [gn_of h0 hn]
  exact ⟨hn, h0⟩
theorem nI0 : (0 : Int32) = nI 0 := by decide
theorem nI1 : (1 : Int32) = nI 1 := by decide
theorem nI2 : (2 : Int32) = nI 2 := by decide
theorem nI_inj {a b : Nat} (ha : a < 2147483648) (hb : b < 2147483648) : nI a = nI b ↔ a = b := nI_eq ha hb
theorem nI_lt0 {b : Nat} (hb : b < 2147483648) : (0 : Int32) < nI b ↔ 0 < b := by rw [nI0]; exact nI_ltI (by decide) hb
theorem NP_bound {la b c d : Nat} (hb : b ≤ 50) : 1 ≤ NP la b c d ∧ NP la b c d ≤ 51 := by
  unfold NP
  by_cases h : la = 2 <;> by_cases h1 : 0 < b <;> by_cases h2 : 0 < c <;> by_cases h3 : 0 < d <;> simp [h, h1, h2, h3] <;> omega
theorem LI_places {w : Nat → Int32} {la a b c d : Nat} (h : LI w la a b c d) : places w = nI (NP la b c d) := by
  obtain ⟨h0, h1, h2, h3, h4, b0, b1, b2, b3, b4, b5, -⟩ := h
  unfold places NP
  rw [h0, h1, h2, h3, h4, nI2]
  have ite1 : ∀ (q : Nat), (if 0 < q then (1 : Int32) else 0) = nI (if 0 < q then 1 else 0) := by
    intro q
    by_cases hq : 0 < q <;> simp [hq] <;> decide
  by_cases hl : la = 2
  · rw [if_pos hl, if_pos (by rw [hl]), nI_1]
  · rw [if_neg hl, if_neg (by rw [nI_inj (by omega) (by omega)]; exact hl)]
    simp only [nI_lt0 (show a < 2147483648 by omega), nI_lt0 (show b < 2147483648 by omega), nI_lt0 (show c < 2147483648 by omega), nI_lt0 (show d < 2147483648 by omega), ite1, nI_add]
    rw [if_pos (by omega : 0 < a)]
theorem LI_law2 {w : Nat → Int32} {la a b c d : Nat} (h : LI w la a b c d) : w 0 = 2 ↔ la = 2 := by
  obtain ⟨h0, h1, h2, h3, h4, b0, -⟩ := h
  rw [h0, nI2, nI_inj (by omega) (by omega)]
theorem LI_law1 {w : Nat → Int32} {la a b c d : Nat} (h : LI w la a b c d) : w 0 = 1 ↔ la = 1 := by
  obtain ⟨h0, h1, h2, h3, h4, b0, -⟩ := h
  rw [h0, nI1, nI_inj (by omega) (by omega)]
/-- the remainder of numbers that are not negative -/
theorem jrem_nI {a b : Nat} (ha : a < 2147483648) (hb0 : 0 < b) (hb : b < 2147483648) : jrem (nI a) (nI b) = nI (a % b) := by
  have hd : nI a / nI b = nI (a / b) := by
    have hb1 : nI b ≠ -1 := by
      intro h
      have := congrArg Int32.toInt h
      rw [nI_toInt (by omega)] at this
      have e : (-1 : Int32).toInt = -1 := by decide
      rw [e] at this
      omega
    have hlt : a / b < 2147483648 := Nat.lt_of_le_of_lt (Nat.div_le_self a b) ha
    apply Int32.toInt_inj.mp
    rw [Int32.toInt_div_of_ne_right _ _ hb1, nI_toInt (by omega), nI_toInt (by omega), nI_toInt (by omega)]
    rw [Int.tdiv_eq_ediv_of_nonneg (by omega)]
    exact (Int.natCast_ediv a b).symm
  unfold jrem
  rw [hd, nI_mul, nI_sub (by rw [Nat.mul_comm]; exact Nat.mul_div_le a b)]
  congr 1
  have := Nat.div_add_mod a b
  rw [Nat.mul_comm] at this
  omega
theorem xnext_nI {x : Nat} (hx : x < 10000) : xnext (nI x) = nI ((x * 421 + 1663) % 10000) := by
  unfold xnext
  rw [show (421 : Int32) = nI 421 by decide, show (1663 : Int32) = nI 1663 by decide, show (10000 : Int32) = nI 10000 by decide, nI_mul, nI_add]
  exact jrem_nI (by omega) (by omega) (by omega)
/-- a place of the round has a gap -/
theorem LI_gapAt {w : Nat → Int32} {la a b c d : Nat} (h : LI w la a b c d) {p : Nat} (hp : p < NP la b c d) : ∃ gp, gapAt w (nI p) = nI gp ∧ 1 ≤ gp ∧ gp ≤ 50 := by
  have hl2 := LI_law2 h
  have hP := (NP_bound (la := la) (b := b) (c := c) (d := d) (h.2.2.2.2.2.2.2.2.1)).2
  obtain ⟨h0, h1, h2, h3, h4, b0, b1, b2, b3, b4, b5, q1, q2⟩ := h
  unfold gapAt
  by_cases hl : la = 2
  · rw [if_pos (hl2.mpr hl)]
    obtain ⟨c1, c2, c3⟩ := q1 hl
    by_cases hlt : nI p < w 2
    · rw [if_pos hlt]; exact ⟨a, h1, b1, b2⟩
    · rw [if_neg hlt]; exact ⟨c, h3, c2, b4⟩
  · rw [if_neg (fun e => hl (hl2.mp e)), nI_clamp (by omega)]
    obtain ⟨c1, c2⟩ := q2 hl
    unfold NP at hp
    rw [if_neg hl] at hp
    have e : p = 0 ∨ p = 1 ∨ p = 2 ∨ p = 3 := by
      by_cases hb : 0 < b <;> by_cases hc : 0 < c <;> by_cases hd : 0 < d <;> simp [hb, hc, hd] at hp <;> omega
    rcases e with rfl | rfl | rfl | rfl
    · exact ⟨a, h1, b1, b2⟩
    · refine ⟨b, h2, ?_, b3⟩
      by_cases hb : 0 < b
      · exact hb
      · exfalso
        have hb0 : b = 0 := by omega
        have hc0 := c1 hb0
        have hd0 := c2 hc0
        simp [hb0, hc0, hd0] at hp
    · refine ⟨c, h3, ?_, b4⟩
      by_cases hc : 0 < c
      · exact hc
      · exfalso
        have hc0 : c = 0 := by omega
        have hd0 := c2 hc0
        by_cases hb : 0 < b <;> simp [hb, hc0, hd0] at hp
    · refine ⟨d, h4, ?_, b5⟩
      by_cases hd : 0 < d
      · exact hd
      · exfalso
        have hd0 : d = 0 := by omega
        by_cases hb : 0 < b <;> by_cases hc : 0 < c <;> simp [hb, hc, hd0] at hp
theorem LI_congr {w w' : Nat → Int32} {la a b c d : Nat} (h : LI w la a b c d) (e : ∀ j, j < 5 → w' j = w j) : LI w' la a b c d := by
  unfold LI at *
  rw [e 0 (by decide), e 1 (by decide), e 2 (by decide), e 3 (by decide), e 4 (by decide)]
  exact h
theorem bx_nI {w : Nat → Int32} {x : Nat} (hx : x < 10000) : ∃ x', x' < 10000 ∧ bx w (nI x) = nI x' := by
  unfold bx
  by_cases h : w 0 = 1
  · rw [if_pos h, xnext_nI hx]; exact ⟨_, Nat.mod_lt _ (by decide), rfl⟩
  · rw [if_neg h]; exact ⟨x, hx, rfl⟩
/-- where the next gap stands -/
theorem bplace_nI {w : Nat → Int32} {la a b c d x q : Nat} (h : LI w la a b c d) (hx : x < 10000) (hq : q < 2147483648) : ∃ p, p < NP la b c d ∧ bplace w (nI x) (nI q) = nI p := by
  have hP := NP_bound (la := la) (b := b) (c := c) (d := d) (h.2.2.2.2.2.2.2.2.1)
  unfold bplace
  rw [LI_places h]
  by_cases h1 : w 0 = 1
  · rw [if_pos h1, xnext_nI hx, jrem_nI (by have := Nat.mod_lt (x * 421 + 1663) (show 0 < 10000 by decide); omega) (by omega) (by omega)]
    exact ⟨_, Nat.mod_lt _ (by omega), rfl⟩
  · rw [if_neg h1, jrem_nI hq (by omega) (by omega)]
    exact ⟨_, Nat.mod_lt _ (by omega), rfl⟩
theorem bw_lo (w : Nat → Int32) (x next : Int32) {j : Nat} (h5 : j ≠ 5) (h6 : j ≠ 6) (h7 : j ≠ 7) : bw w x next j = w j := by
  unfold bw
  rw [upd_ne _ _ h7, upd_ne _ _ h6, upd_ne _ _ h5]
/-- a clock that begins a gap -/
theorem CI_bw {w : Nat → Int32} {t la a b c d x q sm sq : Nat} (h : LI w la a b c d) (hx : x < 10000) (hq : q < 2147483648) (h9 : w 9 = nI sm) (hsm : sm ≤ t) (h10 : w 10 = nI sq) (hsq : TP w sm sq) : CI (bw w (nI x) (nI q)) t := by
  obtain ⟨p, hp, e⟩ := bplace_nI h hx hq
  obtain ⟨gp, hg, g1, g2⟩ := LI_gapAt h hp
  refine ⟨la, a, b, c, d, p, gp, 0, sm, sq, LI_congr h (fun j hj => bw_lo w _ _ (by omega) (by omega) (by omega)), ?_, hp, ?_, g1, g2, ?_, by omega, ?_, by omega, ?_, TP_congr hsq (bw_lo w _ _ (by decide) (by decide) (by decide))⟩
  · unfold bw; rw [upd_ne _ _ (by decide), upd_ne _ _ (by decide), upd_self]; exact e
  · unfold bw; rw [upd_ne _ _ (by decide), upd_self, e]; exact hg
  · unfold bw; rw [upd_self]; exact nI0
  · rw [bw_lo w _ _ (by decide) (by decide) (by decide)]; exact h9
  · rw [bw_lo w _ _ (by decide) (by decide) (by decide)]; exact h10
theorem CI_mono {w : Nat → Int32} {t t' : Nat} (h : CI w t) (ht : t ≤ t') : CI w t' := by
  obtain ⟨la, a, b, c, d, p, gp, ag, sm, sq, hL, h5, hp, h6, g1, g2, h7, ha, h9, hs, h10, hq⟩ := h
  exact ⟨la, a, b, c, d, p, gp, ag, sm, sq, hL, h5, hp, h6, g1, g2, h7, ha, h9, by omega, h10, hq⟩
theorem CI_congr {w w' : Nat → Int32} {t : Nat} (h : CI w t) (e : ∀ j, j < 15 → w' j = w j) : CI w' t := by
  obtain ⟨la, a, b, c, d, p, gp, ag, sm, sq, hL, h5, hp, h6, g1, g2, h7, ha, h9, hs, h10, hq⟩ := h
  exact ⟨la, a, b, c, d, p, gp, ag, sm, sq, LI_congr hL (fun j hj => e j (by omega)), by rw [e 5 (by decide)]; exact h5, hp, by rw [e 6 (by decide)]; exact h6, g1, g2, by rw [e 7 (by decide)]; exact h7, ha, by rw [e 9 (by decide)]; exact h9, hs, by rw [e 10 (by decide)]; exact h10, TP_congr hq (e 8 (by decide))⟩
theorem GI_congr {r r' : Nat → Int32} {t : Nat} (h : GI r t) (e : ∀ j, j < 4 → r' j = r j) : GI r' t := by
  obtain ⟨la, z, mt, h0, h1, h2, h3, h4, h5, h6⟩ := h
  exact ⟨la, z, mt, by rw [e 0 (by decide)]; exact h0, h1, by rw [e 1 (by decide)]; exact h2, h3, h4, by rw [e 3 (by decide)]; exact h5, h6⟩
/-- a clock's tick: it tells, or it goes on -/
theorem CI_tick {w : Nat → Int32} {t : Nat} (h : CI w t) : (w 6 - (w 7 + 1) = 0 → ∀ x, x < 10000 → ∀ u : Nat → Int32, (∀ j, j < 15 → u j = tw (ow w) j) → CI (bw u (nI x) (w 5 + 1)) (t + 1)) ∧ (¬ w 6 - (w 7 + 1) = 0 → CI (ow w) (t + 1)) := by
  obtain ⟨la, a, b, c, d, p, gp, ag, sm, sq, hL, h5, hp, h6, g1, g2, h7, ha, h9, hs, h10, hq⟩ := h
  have hP := NP_bound (la := la) (b := b) (c := c) (d := d) (hL.2.2.2.2.2.2.2.2.1)
  have hr : w 6 - (w 7 + 1) = nI (gp - (ag + 1)) := by rw [h6, h7, nI_1, nI_sub (by omega)]
  have hz : w 6 - (w 7 + 1) = 0 ↔ gp = ag + 1 := by rw [hr, nI0, nI_inj (by omega) (by decide)]; omega
  constructor
  · intro h0 x hx u hu
    have hg := hz.mp h0
    rw [h5, nI_1]
    refine CI_bw (sm := sm + gp) (sq := sq + gp * gp) (LI_congr hL (fun j hj => ?_)) hx (by omega) ?_ (by omega) ?_ ?_
    · rw [hu j (by omega)]
      unfold tw ow
      rw [upd_ne _ _ (by omega), upd_ne _ _ (by omega), upd_ne _ _ (by omega), upd_ne _ _ (by omega), upd_ne _ _ (by omega)]
    · rw [hu 9 (by decide)]
      show w 9 + w 6 = _
      rw [h9, h6, nI_add]
    · rw [hu 10 (by decide)]
      show w 10 + w 6 * w 6 = _
      rw [h10, h6, nI_mul, nI_add]
    · have : gp * gp ≤ 50 * gp := Nat.mul_le_mul_right gp g2
      have h1 : 1 * gp ≤ gp * gp := Nat.mul_le_mul_right gp g1
      obtain ⟨hq0, k, k8, k1, k2⟩ := hq
      refine ⟨by omega, k + 1, ?_, by omega, by omega⟩
      rw [hu 8 (by decide)]
      show w 8 + 1 = _
      rw [k8, nI_1]
  · intro h0
    have hg : ¬ gp = ag + 1 := fun e => h0 (hz.mpr e)
    refine ⟨la, a, b, c, d, p, gp, ag + 1, sm, sq, LI_congr hL (fun j hj => ?_), ?_, hp, ?_, g1, g2, ?_, by omega, ?_, by omega, ?_, TP_congr hq rfl⟩
    · unfold ow; rw [upd_ne _ _ (by omega)]
    · exact h5
    · exact h6
    · show w 7 + 1 = _
      rw [h7, nI_1]
    · exact h9
    · exact h10
/-- what the clocks' loop of a tick leaves -/
theorem eC_inv {S : SV} {t : Nat} (h : Inv S t) : ∀ i, i ≤ cn S → (∀ k, k < 3 → (eC S i).1 k = S k) ∧ (∃ x, x < 10000 ∧ (eC S i).1 3 = nI x) ∧ (∀ k j, j < 4 → gw (eC S i).1 k j = gw S k j) ∧ (∀ k, k < cn S → i ≤ k → ∀ j, j < 15 → cw (eC S i).1 k j = cw S k j) ∧ (∀ k, k < i → CI (cw (eC S i).1 k) (t + 1)) ∧ ∃ z, z < 2 ^ i ∧ (eC S i).2 = nI z := by
  have hn := h.cn_le.1
  have hx := h.2.2.2.2.1
  have hC := h.2.2.2.2.2.1
  intro i
  induction i with
  | zero => intro _; exact ⟨fun _ _ => rfl, hx, fun _ _ _ => rfl, fun _ _ _ _ _ => rfl, fun k hk => absurd hk (Nat.not_lt_zero k), 0, by decide, nI0⟩
  | succ i ih =>
    intro hi
    obtain ⟨a1, ⟨x, hx1, hx2⟩, a3, a4, a5, z, hz, a6⟩ := ih (by omega)
    have hCi : CI (cw (eC S i).1 i) t := CI_congr (hC i (by omega)) (fun j hj => a4 i (by omega) (Nat.le_refl i) j hj)
    obtain ⟨t1, t2⟩ := CI_tick hCi
    have hzi : ∃ z', z' < 2 ^ (i + 1) ∧ (eC S i).2 ||| (1 <<< (nI i &&& 31)) = nI z' := by
      rw [a6]
      have key : ∀ i, i < 6 → ∀ z, z < 64 → z < 2 ^ i → nI z ||| (1 <<< (nI i &&& 31)) = nI (z + 2 ^ i) := by decide +kernel
      have h64 : (2 : Nat) ^ i ≤ 64 := Nat.le_trans (Nat.pow_le_pow_right (by decide) (show i ≤ 6 by omega)) (by decide)
      refine ⟨z + 2 ^ i, by rw [Nat.pow_succ]; omega, key i (by omega) z (by omega) hz⟩
    by_cases hT : tC (eC S i).1 i
    · have e1 : (eC S (i + 1)).1 = beg (setC (eC S i).1 i (tw (ow (cw (eC S i).1 i)))) i (cw (eC S i).1 i 5 + 1) := by
        show sC _ i = _
        unfold sC
        rw [if_pos hT]
      have e2 : (eC S (i + 1)).2 = (eC S i).2 ||| (1 <<< (nI i &&& 31)) := by
        show (if _ then _ else _) = _
        rw [if_pos hT]
      rw [e1, e2]
      have hcw : ∀ j, j < 15 → cw (setC (eC S i).1 i (tw (ow (cw (eC S i).1 i)))) i j = tw (ow (cw (eC S i).1 i)) j := fun j hj => cw_setC _ _ _ hj
      unfold beg
      rw [setC_lo _ _ _ (show 3 < 4 by decide), hx2]
      refine ⟨fun k hk => ?_, ?_, fun k j hj => ?_, fun k hk hik j hj => ?_, fun k hk => ?_, hzi⟩
      · rw [upd_ne _ _ (by omega), setC_lo _ _ _ (by omega), setC_lo _ _ _ (by omega)]
        exact a1 k hk
      · rw [upd_self]
        obtain ⟨x', q1, q2⟩ := bx_nI (w := cw (setC (eC S i).1 i (tw (ow (cw (eC S i).1 i)))) i) hx1
        exact ⟨x', q1, q2⟩
      · rw [gw_upd_lo _ _ _ (by decide), gw_setC _ _ (by omega), gw_setC _ _ (by omega)]
        exact a3 k j hj
      · rw [cw_upd_lo _ _ _ (by decide), cw_setC_ne _ _ hj (by omega), cw_setC_ne _ _ hj (by omega)]
        exact a4 k hk (by omega) j hj
      · rw [cw_upd_lo _ _ _ (by decide)]
        by_cases hki : k = i
        · subst hki
          exact CI_congr (t1 hT x hx1 _ hcw) (fun j hj => cw_setC _ _ _ hj)
        · refine CI_congr (a5 k (by omega)) (fun j hj => ?_)
          rw [cw_setC_ne _ _ hj hki, cw_setC_ne _ _ hj hki]
    · have e1 : (eC S (i + 1)).1 = setC (eC S i).1 i (ow (cw (eC S i).1 i)) := by
        show sC _ i = _
        unfold sC
        rw [if_neg hT]
      have e2 : (eC S (i + 1)).2 = (eC S i).2 := by
        show (if _ then _ else _) = _
        rw [if_neg hT]
      rw [e1, e2]
      refine ⟨fun k hk => ?_, ⟨x, hx1, ?_⟩, fun k j hj => ?_, fun k hk hik j hj => ?_, fun k hk => ?_, z, by rw [Nat.pow_succ]; omega, a6⟩
      · rw [setC_lo _ _ _ (by omega)]
        exact a1 k hk
      · rw [setC_lo _ _ _ (by decide)]
        exact hx2
      · rw [gw_setC _ _ (by omega)]
        exact a3 k j hj
      · rw [cw_setC_ne _ _ hj (by omega)]
        exact a4 k hk (by omega) j hj
      · by_cases hki : k = i
        · subst hki
          exact CI_congr (t2 hT) (fun j hj => cw_setC _ _ _ hj)
        · exact CI_congr (a5 k (by omega)) (fun j hj => cw_setC_ne _ _ hj hki)
/-- bits of six: the number of them -/
theorem jbc_nI : ∀ z, z < 64 → jbc (nI z) = nI (pop6 z) := by decide +kernel
theorem iand_nI : ∀ a, a < 64 → ∀ b, b < 64 → nI a &&& nI b = nI (a &&& b) ∧ a &&& b < 64 := by decide +kernel
theorem pop6_le : ∀ z, z < 64 → pop6 z ≤ 6 := by decide +kernel
theorem GI_tick {r : Nat → Int32} {t z : Nat} (h : GI r t) (hz : z < 64) : GI (gtick r (nI z)) (t + 1) := by
  obtain ⟨la, y, mt, h0, h1, h2, h3, h4, h5, h6⟩ := h
  obtain ⟨q1, q2⟩ := iand_nI y h3 z hz
  have hp := pop6_le _ q2
  have e : gtick r (nI z) 3 = nI (if pop6 (y &&& z) < 2 then mt else mt + 1) := by
    unfold gtick
    rw [if_neg (by decide), if_pos rfl, h2, q1, jbc_nI _ q2, h5, nI_1, nI2]
    by_cases hc : pop6 (y &&& z) < 2
    · rw [if_pos hc, if_pos ((nI_ltI (by omega) (by decide)).mpr hc)]
    · rw [if_neg hc, if_neg (fun e => hc ((nI_ltI (by omega) (by decide)).mp e))]
  exact ⟨la, y, _, h0, h1, h2, h3, h4, e, by split <;> omega⟩
theorem eG_inv {S : SV} {z : Nat} (hz : z < 64) (t m : Nat) (hm : m ≤ 4) (hG : ∀ k, k < m → GI (gw S k) t) : ∀ i, i ≤ m → (∀ k, k < 4 → eG S (nI z) i k = S k) ∧ (∀ k, k < 6 → ∀ j, j < 15 → cw (eG S (nI z) i) k j = cw S k j) ∧ (∀ k, i ≤ k → ∀ j, j < 4 → gw (eG S (nI z) i) k j = gw S k j) ∧ ∀ k, k < i → GI (gw (eG S (nI z) i) k) (t + 1) := by
  intro i
  induction i with
  | zero => intro _; exact ⟨fun _ _ => rfl, fun _ _ _ _ => rfl, fun _ _ _ _ => rfl, fun k hk => absurd hk (Nat.not_lt_zero k)⟩
  | succ i ih =>
    intro hi
    obtain ⟨a1, a2, a3, a4⟩ := ih (by omega)
    have e : eG S (nI z) (i + 1) = setGr (eG S (nI z) i) i (gtick (gw (eG S (nI z) i) i) (nI z)) := rfl
    rw [e]
    refine ⟨fun k hk => ?_, fun k hk j hj => ?_, fun k hik j hj => ?_, fun k hk => ?_⟩
    · rw [setGr_lo _ _ _ hk]; exact a1 k hk
    · rw [cw_setGr _ _ _ hk hj]; exact a2 k hk j hj
    · rw [gw_setGr_ne _ _ hj (by omega)]; exact a3 k (by omega) j hj
    · by_cases hki : k = i
      · subst hki
        exact GI_congr (GI_tick (GI_congr (hG k (by omega)) (fun j hj => a3 k (Nat.le_refl k) j hj)) hz) (fun j hj => gw_setGr _ _ _ hj)
      · exact GI_congr (a4 k (by omega)) (fun j hj => gw_setGr_ne _ _ hj hki)
theorem ends_lo {S : SV} {t : Nat} (h : Inv S t) : ends S 0 = S 0 ∧ ends S 1 = S 1 ∧ cn (ends S) = cn S ∧ gn (ends S) = gn S := by
  obtain ⟨a1, -, -, -, -, z, hz, a6⟩ := eC_inv h (cn S) (Nat.le_refl _)
  have hn := h.cn_le.1
  have hz6 : z < 64 := Nat.lt_of_lt_of_le hz (Nat.le_trans (Nat.pow_le_pow_right (by decide) hn) (by decide))
  have e : ∀ k, k < 2 → ends S k = S k := by
    intro k hk
    unfold ends
    rw [upd_ne _ _ (by omega), a6]
    have : ∀ i, eG (eC S (cn S)).1 (nI z) i k = (eC S (cn S)).1 k := by
      intro i
      induction i with
      | zero => rfl
      | succ i ih => exact (setGr_lo _ _ _ (by omega)).trans ih
    rw [this, a1 k (by omega)]
  refine ⟨e 0 (by decide), e 1 (by decide), ?_, ?_⟩
  · unfold cn; rw [e 0 (by decide)]
  · unfold gn; rw [e 1 (by decide)]
theorem endsZ_nI {S : SV} {t : Nat} (h : Inv S t) : ∃ z, z < 64 ∧ endsZ S = nI z := by
  obtain ⟨-, -, -, -, -, z, hz, a6⟩ := eC_inv h (cn S) (Nat.le_refl _)
  exact ⟨z, Nat.lt_of_lt_of_le hz (Nat.le_trans (Nat.pow_le_pow_right (by decide) h.cn_le.1) (by decide)), a6⟩
/-- the state behind a tick is one, too -/
theorem Inv_ends {S : SV} {t : Nat} (h : Inv S t) (ht : t + 1 ≤ 100200) : Inv (ends S) (t + 1) := by
  obtain ⟨a1, ⟨x, hx1, hx2⟩, a3, a4, a5, z, hz, a6⟩ := eC_inv h (cn S) (Nat.le_refl _)
  obtain ⟨e0, e1, ec, eg⟩ := ends_lo h
  have hn := h.cn_le
  have hm := h.gn_le
  have hz6 : z < 64 := Nat.lt_of_lt_of_le hz (Nat.le_trans (Nat.pow_le_pow_right (by decide) hn.1) (by decide))
  obtain ⟨b1, b2, b3, b4⟩ := eG_inv hz6 t (gn S) hm.1 (fun k hk => GI_congr (h.2.2.2.2.2.2 k hk) (fun j hj => a3 k j hj)) (gn S) (Nat.le_refl _)
  refine ⟨⟨cn S, hn.1, by rw [e0]; exact hn.2⟩, ⟨gn S, hm.1, by rw [e1]; exact hm.2⟩, ?_, ht, ⟨x, hx1, ?_⟩, ?_, ?_⟩
  · unfold ends
    rw [upd_self, h.2.2.1, nI_1]
  · unfold ends
    rw [upd_ne _ _ (by decide), a6, b1 3 (by decide)]
    exact hx2
  · rw [ec]
    intro i hi
    unfold ends
    rw [cw_upd_lo _ _ _ (by decide), a6]
    exact CI_congr (a5 i hi) (fun j hj => b2 i (by omega) j hj)
  · rw [eg]
    intro i hi
    unfold ends
    rw [gw_upd_lo _ _ _ (by decide), a6]
    exact b4 i hi
end
section
/-! THE CLASS'S HALL AGAINST THE STATE -/
def rnd (la : Int32) (f : Nat → Int32) : Nat → Int32 := rndR (fun _ => 0) la f
/-- a clock's four rows say what the fifteen numbers w say -/
def CRr (r0 r1 r2 r3 w : Nat → Int32) : Prop := r0 0 = w 0 ∧ (∀ j, j < 4 → r1 j = w (1 + j)) ∧ r0 2 = w 5 ∧ r0 3 = w 6 ∧ r0 4 = w 6 - w 7 ∧ r0 5 = w 12 ∧ r0 6 = w 13 ∧ r0 7 = w 14 ∧ r2 0 = w 8 ∧ r2 1 = w 9 ∧ r2 2 = w 10 ∧ r2 3 = (w 10 + w 9) / 2 ∧ r2 4 = w 11 ∧ ∀ j, j < 5 → r3 j = rnd (w 0) (fun j => w (1 + j)) j
abbrev CR (M : Mem) (c : Nat) (w : Nat → Int32) : Prop := CRr (M c) (M (c + 1)) (M (c + 2)) (M (c + 3)) w
theorem radd_congr {r r' : Nat → Int32} (gp t : Int32) (h : ∀ j, j < 5 → r j = r' j) : ∀ j, j < 5 → radd r gp t j = radd r' gp t j := by
  intro j hj
  unfold radd
  rw [h 0 (by decide), h 1 (by decide), h 2 (by decide), h 3 (by decide), h 4 (by decide), h j hj]
theorem radc_congr {r r' : Nat → Int32} (x : Int32) (h : ∀ j, j < 5 → r j = r' j) : ∀ j, j < 5 → radc r x j = radc r' x j := by
  intro j hj
  unfold radc
  split
  · exact radd_congr x 1 h j hj
  · exact h j hj
theorem rndR_congr {r r' f f' : Nat → Int32} (la : Int32) (h : ∀ j, j < 5 → r j = r' j) (hf : ∀ j, j < 4 → f j = f' j) : ∀ j, j < 5 → rndR r la f j = rndR r' la f' j := by
  intro j hj
  unfold rndR
  split
  · rw [hf 0 (by decide), hf 1 (by decide), hf 2 (by decide)]
    exact radd_congr _ _ (radd_congr _ _ h) j hj
  · show radc (radc (radc (radc r (f 0)) (f 1)) (f 2)) (f 3) j = radc (radc (radc (radc r' (f' 0)) (f' 1)) (f' 2)) (f' 3) j
    rw [hf 0 (by decide), hf 1 (by decide), hf 2 (by decide), hf 3 (by decide)]
    exact radc_congr _ (radc_congr _ (radc_congr _ (radc_congr _ h))) j hj
theorem CRr_congr {r0 r1 r2 r3 w w' : Nat → Int32} (h : CRr r0 r1 r2 r3 w) (e : ∀ j, j < 15 → w' j = w j) : CRr r0 r1 r2 r3 w' := by
  obtain ⟨h0, h1, h2, h3, h4, h5, h6, h7, h8, h9, h10, h11, h12, h13⟩ := h
  refine ⟨?_, fun j hj => ?_, ?_, ?_, ?_, ?_, ?_, ?_, ?_, ?_, ?_, ?_, ?_, fun j hj => ?_⟩
  · rw [e 0 (by decide)]; exact h0
  · rw [e _ (by omega)]; exact h1 j hj
  · rw [e 5 (by decide)]; exact h2
  · rw [e 6 (by decide)]; exact h3
  · rw [e 6 (by decide), e 7 (by decide)]; exact h4
  · rw [e 12 (by decide)]; exact h5
  · rw [e 13 (by decide)]; exact h6
  · rw [e 14 (by decide)]; exact h7
  · rw [e 8 (by decide)]; exact h8
  · rw [e 9 (by decide)]; exact h9
  · rw [e 10 (by decide)]; exact h10
  · rw [e 9 (by decide), e 10 (by decide)]; exact h11
  · rw [e 11 (by decide)]; exact h12
  · rw [e 0 (by decide), h13 j hj]
    exact rndR_congr _ (fun _ _ => rfl) (fun i hi => (e _ (by omega)).symm) j hj
/-- rows alike where they count -/
theorem CRr_rows {r0 r1 r2 r3 s0 s1 s2 s3 w : Nat → Int32} (h : CRr r0 r1 r2 r3 w) (e0 : ∀ j, j < 8 → j ≠ 1 → s0 j = r0 j) (e1 : ∀ j, j < 4 → s1 j = r1 j) (e2 : ∀ j, j < 5 → s2 j = r2 j) (e3 : ∀ j, j < 5 → s3 j = r3 j) : CRr s0 s1 s2 s3 w := by
  obtain ⟨h0, h1, h2, h3, h4, h5, h6, h7, h8, h9, h10, h11, h12, h13⟩ := h
  refine ⟨?_, fun j hj => ?_, ?_, ?_, ?_, ?_, ?_, ?_, ?_, ?_, ?_, ?_, ?_, fun j hj => ?_⟩
  · rw [e0 0 (by decide) (by decide)]; exact h0
  · rw [e1 j hj]; exact h1 j hj
  · rw [e0 2 (by decide) (by decide)]; exact h2
  · rw [e0 3 (by decide) (by decide)]; exact h3
  · rw [e0 4 (by decide) (by decide)]; exact h4
  · rw [e0 5 (by decide) (by decide)]; exact h5
  · rw [e0 6 (by decide) (by decide)]; exact h6
  · rw [e0 7 (by decide) (by decide)]; exact h7
  · rw [e2 0 (by decide)]; exact h8
  · rw [e2 1 (by decide)]; exact h9
  · rw [e2 2 (by decide)]; exact h10
  · rw [e2 3 (by decide)]; exact h11
  · rw [e2 4 (by decide)]; exact h12
  · rw [e3 j hj]; exact h13 j hj
/-- the gap that a place has, as the class and as the check read it -/
theorem gapF_gapAt {r0 r1 r2 r3 w : Nat → Int32} (h : CRr r0 r1 r2 r3 w) {la a b c d p : Nat} (hL : LI w la a b c d) (hp : p < NP la b c d) : gapF (r0 0) r1 (nI p) = gapAt w (nI p) := by
  have hl2 := LI_law2 hL
  have hP := (NP_bound (la := la) (b := b) (c := c) (d := d) (hL.2.2.2.2.2.2.2.2.1)).2
  obtain ⟨h0, h1, -⟩ := h
  unfold gapF gapAt
  rw [h0]
  by_cases hl : la = 2
  · rw [if_pos (hl2.mpr hl), if_pos (hl2.mpr hl), h1 0 (by decide), h1 1 (by decide), h1 2 (by decide)]
  · rw [if_neg (fun e => hl (hl2.mp e)), if_neg (fun e => hl (hl2.mp e)), nI_clamp (by omega)]
    have hp4 : p < 4 := by
      unfold NP at hp
      rw [if_neg hl] at hp
      by_cases hb : 0 < b <;> by_cases hc : 0 < c <;> by_cases hd : 0 < d <;> simp [hb, hc, hd] at hp <;> omega
    rw [if_pos ⟨nI_pos' (by omega), (nI_ltI (b := 4) (by omega) (by decide)).mpr hp4⟩, h1 p hp4]
/-- beginning a gap -/
theorem CRr_beg {r0 r1 r2 r3 w : Nat → Int32} (h : CRr r0 r1 r2 r3 w) (p gp : Int32) : CRr (cbegF r0 p gp) r1 r2 r3 (upd (upd (upd w 5 p) 6 gp) 7 0) := by
  obtain ⟨h0, h1, h2, h3, h4, h5, h6, h7, h8, h9, h10, h11, h12, h13⟩ := h
  refine ⟨h0, fun j hj => ?_, rfl, rfl, ?_, h5, h6, h7, h8, h9, h10, h11, h12, fun j hj => ?_⟩
  · rw [upd_ne _ _ (by omega), upd_ne _ _ (by omega), upd_ne _ _ (by omega)]; exact h1 j hj
  · show gp = gp - 0
    rw [Int32.sub_zero]
  · rw [h13 j hj]
    exact rndR_congr _ (fun _ _ => rfl) (fun i hi => by rw [upd_ne _ _ (by omega), upd_ne _ _ (by omega), upd_ne _ _ (by omega)]) j hj
theorem idiv_nI {a b : Nat} (ha : a < 2147483648) (hb0 : 0 < b) (hb : b < 2147483648) : nI a / nI b = nI (a / b) := by
  have hb1 : nI b ≠ -1 := by
    intro h
    have := congrArg Int32.toInt h
    rw [nI_toInt (by omega)] at this
    have e : (-1 : Int32).toInt = -1 := by decide
    rw [e] at this
    omega
  have hlt : a / b < 2147483648 := Nat.lt_of_le_of_lt (Nat.div_le_self a b) ha
  apply Int32.toInt_inj.mp
  rw [Int32.toInt_div_of_ne_right _ _ hb1, nI_toInt (by omega), nI_toInt (by omega), nI_toInt (by omega)]
  rw [Int.tdiv_eq_ediv_of_nonneg (by omega)]
  exact (Int.natCast_ediv a b).symm
theorem wait_half : ∀ q, q < 51 → nI q * (nI q + 1) / 2 * 1 = nI ((q * q + q) / 2) := by decide +kernel
theorem wait_even : ∀ q, q < 51 → (q * q + q) % 2 = 0 := by decide +kernel
/-- the tick's first half: age one more; and, with the gap told, the tally -/
theorem CRr_age {r0 r1 r2 r3 w : Nat → Int32} (h : CRr r0 r1 r2 r3 w) : CRr (upd r0 4 (r0 4 - 1)) r1 r2 r3 (ow w) := by
  obtain ⟨h0, h1, h2, h3, h4, h5, h6, h7, h8, h9, h10, h11, h12, h13⟩ := h
  refine ⟨h0, fun j hj => ?_, h2, h3, ?_, h5, h6, h7, h8, h9, h10, h11, h12, fun j hj => ?_⟩
  · unfold ow; rw [upd_ne _ _ (by omega)]; exact h1 j hj
  · show r0 4 - 1 = w 6 - (w 7 + 1)
    rw [h4, Int32.sub_sub]
  · rw [h13 j hj]
    exact rndR_congr _ (fun _ _ => rfl) (fun i hi => by unfold ow; rw [upd_ne _ _ (by omega)]) j hj
theorem CRr_told {r0 r1 r2 r3 w : Nat → Int32} (h : CRr r0 r1 r2 r3 w) {gp sm sq : Nat} (hg : w 6 = nI gp) (hg5 : gp ≤ 50) (h9' : w 9 = nI sm) (h10' : w 10 = nI sq) (hsm : sm ≤ 100200) (hsq : sq ≤ 50 * sm) : CRr r0 r1 (radd r2 (r0 3) 1) r3 (tw w) := by
  obtain ⟨h0, h1, h2, h3, h4, h5, h6, h7, h8, h9, h10, h11, h12, h13⟩ := h
  have m1 : ∀ x : Int32, x * 1 = x := fun x => Int32.mul_one x
  refine ⟨h0, fun j hj => ?_, h2, h3, h4, h5, h6, h7, ?_, ?_, ?_, ?_, ?_, fun j hj => ?_⟩
  · unfold tw; rw [upd_ne _ _ (by omega), upd_ne _ _ (by omega), upd_ne _ _ (by omega), upd_ne _ _ (by omega)]; exact h1 j hj
  · show r2 0 + 1 = w 8 + 1
    rw [h8]
  · show r2 1 + r0 3 * 1 = w 9 + w 6
    rw [h9, h3, m1]
  · show r2 2 + r0 3 * r0 3 * 1 = w 10 + w 6 * w 6
    rw [h10, h3, m1]
  · show r2 3 + r0 3 * (r0 3 + 1) / 2 * 1 = ((w 10 + w 6 * w 6) + (w 9 + w 6)) / 2
    have hw := wait_half gp (by omega)
    have he := wait_even gp (by omega)
    have hgg : gp * gp ≤ 50 * gp := Nat.mul_le_mul_right gp hg5
    rw [h3, h11, hg, hw, h9', h10', nI_mul, nI_add, nI_add, nI_add, nI_add, nI2, idiv_nI (by omega) (by decide) (by decide), idiv_nI (by omega) (by decide) (by decide), nI_add]
    congr 1
    omega
  · show (if r2 4 < r0 3 then r0 3 else r2 4) = (if w 6 < w 11 then w 11 else w 6)
    rw [h12, h3]
    by_cases c1 : w 11 < w 6
    · rw [if_pos c1, if_neg (fun c2 => Int32.lt_irrefl (Int32.lt_trans c1 c2))]
    · rw [if_neg c1]
      by_cases c2 : w 6 < w 11
      · rw [if_pos c2]
      · rw [if_neg c2]
        exact Int32.le_antisymm (Int32.not_lt.mp c2) (Int32.not_lt.mp c1)
  · rw [h13 j hj]
    exact rndR_congr _ (fun _ _ => rfl) (fun i hi => by unfold tw; rw [upd_ne _ _ (by omega), upd_ne _ _ (by omega), upd_ne _ _ (by omega), upd_ne _ _ (by omega)]) j hj
theorem rnd_many {r0 r1 r2 r3 w : Nat → Int32} (h : CRr r0 r1 r2 r3 w) : r3 0 = places w := by
  obtain ⟨h0, h1, h2, h3, h4, h5, h6, h7, h8, h9, h10, h11, h12, h13⟩ := h
  rw [h13 0 (by decide)]
  unfold rnd rndR places
  by_cases hl : w 0 = 2
  · rw [if_pos hl, if_pos hl]
    show (0 + w 2) + 1 = w 2 + 1
    rw [Int32.zero_add]
  · rw [if_neg hl, if_neg hl]
    have e : ∀ (r : Nat → Int32) (x : Int32), radc r x 0 = r 0 + (if 0 < x then 1 else 0) := by
      intro r x
      unfold radc
      by_cases hx : 0 < x
      · rw [if_pos hx, if_pos hx]; rfl
      · rw [if_neg hx, if_neg hx, Int32.add_zero]
    show radc (radc (radc (radc (fun _ => 0) (w 1)) (w 2)) (w 3)) (w 4) 0 = _
    rw [e, e, e, e, Int32.zero_add]
/-- a hall at the place h is as S says -/
def HR (M : Mem) (h : Nat) (S : SV) : Prop := M h 1 = S 0 ∧ M h 3 = S 1 ∧ M h 4 = S 2 ∧ M h 5 = S 3 ∧ (∀ i, i < cn S → CR M (h + 3 + 4 * i) (cw S i)) ∧ ∀ i, i < gn S → ∀ j, j < 4 → M (h + 27 + i) j = gw S i j
/-- nothing but the hall at h is touched -/
def frH (M M2 : Mem) (h : Nat) : Prop := ∀ a, (a < h ∨ h + 31 ≤ a) → M2 a = M a
theorem frH.refl (M : Mem) (h : Nat) : frH M M h := fun _ _ => rfl
theorem frH.trans {M M1 M2 : Mem} {h : Nat} (a : frH M M1 h) (b : frH M1 M2 h) : frH M M2 h := fun x hx => (b x hx).trans (a x hx)
theorem HR_congr {M : Mem} {h : Nat} {S S' : SV} (hr : HR M h S) (hc : cn S ≤ 6) (hg : gn S ≤ 4) (e : ∀ k, k < 110 → S' k = S k) : HR M h S' := by
  obtain ⟨h0, h1, h2, h3, h4, h5⟩ := hr
  have ec : cn S' = cn S := by unfold cn; rw [e 0 (by decide)]
  have eg : gn S' = gn S := by unfold gn; rw [e 1 (by decide)]
  refine ⟨by rw [e 0 (by decide)]; exact h0, by rw [e 1 (by decide)]; exact h1, by rw [e 2 (by decide)]; exact h2, by rw [e 3 (by decide)]; exact h3, ?_, ?_⟩
  · rw [ec]
    intro i hi
    exact CRr_congr (h4 i hi) (fun j hj => e _ (by omega))
  · rw [eg]
    intro i hi j hj
    rw [h5 i hi j hj]
    exact (e _ (by omega)).symm
theorem HR_row {M M2 : Mem} {h : Nat} {S : SV} (hr : HR M h S) (hc : cn S ≤ 6) (hg : gn S ≤ 4) (e : ∀ a, h ≤ a → a < h + 31 → M2 a = M a) : HR M2 h S := by
  obtain ⟨h0, h1, h2, h3, h4, h5⟩ := hr
  refine ⟨by rw [e h (by omega) (by omega)]; exact h0, by rw [e h (by omega) (by omega)]; exact h1, by rw [e h (by omega) (by omega)]; exact h2, by rw [e h (by omega) (by omega)]; exact h3, fun i hi => ?_, fun i hi j hj => ?_⟩
  · show CRr _ _ _ _ _
    rw [e _ (by omega) (by omega), e _ (by omega) (by omega), e _ (by omega) (by omega), e _ (by omega) (by omega)]
    exact h4 i hi
  · rw [e _ (by omega) (by omega)]
    exact h5 i hi j hj
/-- one clock's rows are changed, and x -/
theorem HR_clock {M M2 : Mem} {h : Nat} {S : SV} {i : Nat} {w : Nat → Int32} {x : Int32} (hr : HR M h S) (hc : cn S ≤ 6) (hg : gn S ≤ 4) (hi : i < 6) (e0 : M2 h = upd (M h) 5 x) (e : ∀ a, h ≤ a → a < h + 31 → a ≠ h → (a < h + 3 + 4 * i ∨ h + 7 + 4 * i ≤ a) → M2 a = M a) (hw : CR M2 (h + 3 + 4 * i) w) : HR M2 h (upd (setC S i w) 3 x) := by
  obtain ⟨h0, h1, h2, h3, h4, h5⟩ := hr
  have lo : ∀ k, k < 3 → upd (setC S i w) 3 x k = S k := fun k hk => by rw [upd_ne _ _ (by omega), setC_lo _ _ _ (by omega)]
  have ec : cn (upd (setC S i w) 3 x) = cn S := by unfold cn; rw [lo 0 (by decide)]
  have eg : gn (upd (setC S i w) 3 x) = gn S := by unfold gn; rw [lo 1 (by decide)]
  refine ⟨?_, ?_, ?_, ?_, ?_, ?_⟩
  · rw [e0, lo 0 (by decide)]; exact h0
  · rw [e0, lo 1 (by decide)]; exact h1
  · rw [e0, lo 2 (by decide)]; exact h2
  · rw [e0, upd_self, upd_self]
  · rw [ec]
    intro k hk
    rw [cw_upd_lo _ _ _ (by decide)]
    by_cases hki : k = i
    · subst hki
      exact CRr_congr hw (fun j hj => cw_setC _ _ _ hj)
    · show CRr _ _ _ _ _
      rw [e _ (by omega) (by omega) (by omega) (by omega), e _ (by omega) (by omega) (by omega) (by omega), e _ (by omega) (by omega) (by omega) (by omega), e _ (by omega) (by omega) (by omega) (by omega)]
      exact CRr_congr (h4 k hk) (fun j hj => cw_setC_ne _ _ hj hki)
  · rw [eg]
    intro k hk j hj
    rw [gw_upd_lo _ _ _ (by decide), gw_setC _ _ hi, e _ (by omega) (by omega) (by omega) (by omega)]
    exact h5 k hk j hj
end
section
/-! Hall: who is asked for -/
theorem nI_of_range {x : Int32} {n : Nat} (h0 : ¬ x < 0) (h1 : x < nI n) (hn : n < 2147483648) : ∃ i, i < n ∧ x = nI i := by
  obtain ⟨j, hj, rfl⟩ := nI_of h0
  exact ⟨j, (nI_ltI hj hn).mp h1, rfl⟩
theorem nI_out {x : Int32} {n : Nat} (h : x < 0 ∨ nI n ≤ x) (hn : n < 2147483648) : ∀ i, i < n → x ≠ nI i := by
  rintro i hi rfl
  rcases h with h | h
  · exact nI_pos (by omega) h
  · exact nI_ge hi hn h
set_option maxHeartbeats 4000000 in
set_option maxRecDepth 100000 in
theorem c_X3_clockAt (l : Launch) (g : Gm) (M : Mem) (h : Nat) (hk : kd h = 3) (n : Nat) (hn : n ≤ 6) (hM : M h 1 = nI n) (x : Int32) : Cn l yX3_clockAt cX3_clockAt 2 (some (.object "RenewalClocks$Clock")) 0 0 g [.ref (ad g h), .int x] M (fun v M2 => M2 = M ∧ ((∃ i, i < n ∧ x = nI i ∧ v = some (.ref (ad g (h + 3 + 4 * i)))) ∨ ((∀ i, i < n → x ≠ nI i) ∧ v = some .null))) := by
  refine Cn.intro (lv0 := [some (.ref (ad g h)), some (.int x)]) 0 (by decide +kernel) (Nat.le_of_ble_eq_true rfl) rfl (fun X F r => ?_)
  obtain ⟨hk1, hk2, hkC, hkG⟩ := kd_hall hk
  refine g_iload_n (pc := 0) F dX3_clockAt_0 rfl ?_
  refine g_if_lt (pc := 1) (tgt := 21) F dX3_clockAt_1 (by decide) (fun c1 => ?_) (fun c1 => ?_)
  · refine g_null (pc := 21) F dX3_clockAt_21 ?_
    refine g_aretN (pc := 22) F r dX3_clockAt_22 ⟨rfl, Or.inr ⟨nI_out (by first | exact Or.inl c1 | exact Or.inr c9) (by omega), rfl⟩⟩
  · refine g_iload_n (pc := 4) F dX3_clockAt_4 rfl ?_
    refine g_aload_n (pc := 5) F dX3_clockAt_5 rfl ?_
    refine g_geti (pc := 6) F fl_X3_29 (by assumption) rfl dX3_clockAt_6 ?_
    refine g_icmp_ge (pc := 9) (tgt := 21) F dX3_clockAt_9 (by decide) (fun c9 => ?_) (fun c9 => ?_)
    · rw [hM] at c9
      refine g_null (pc := 21) F dX3_clockAt_21 ?_
      refine g_aretN (pc := 22) F r dX3_clockAt_22 ⟨rfl, Or.inr ⟨nI_out (by first | exact Or.inl c1 | exact Or.inr c9) (by omega), rfl⟩⟩
    · rw [hM] at c9
      obtain ⟨i, hi, hx⟩ := nI_of_range c1 (Int32.not_le.mp c9) (by omega)
      refine g_iload_n (pc := 12) F dX3_clockAt_12 rfl ?_
      refine g_aload_n (pc := 13) F dX3_clockAt_13 rfl ?_
      refine g_getr (pc := 14) F fl_X3_11 (by assumption) rfl dX3_clockAt_14 ?_
      refine g_alenK (pc := 17) F (by assumption) (v := 6) (by decide) dX3_clockAt_17 ?_
      refine g_icmp_lt (pc := 18) (tgt := 23) F dX3_clockAt_18 (by decide) (fun c18 => ?_) (fun c18 => ?_)
      · refine g_aload_n (pc := 23) F dX3_clockAt_23 rfl ?_
        refine g_getr (pc := 24) F fl_X3_11 (by assumption) rfl dX3_clockAt_24 ?_
        refine g_iload_n (pc := 27) F dX3_clockAt_27 rfl ?_
        refine g_aaldK (pc := 28) (q := i) (r := h + 3 + 4 * i) F hk1 hx (by omega) (by omega) dX3_clockAt_28 ?_
        refine g_aret (pc := 29) F r dX3_clockAt_29 ?_
        exact ⟨rfl, Or.inl ⟨i, hi, hx, rfl⟩⟩
      · exact absurd (by rw [hx]; exact nI_lt (a := i) (b := 6) (by omega) (by decide)) c18

set_option maxHeartbeats 4000000 in
set_option maxRecDepth 100000 in
theorem c_X3_groupAt (l : Launch) (g : Gm) (M : Mem) (h : Nat) (hk : kd h = 3) (n : Nat) (hn : n ≤ 4) (hM : M h 3 = nI n) (x : Int32) : Cn l yX3_groupAt cX3_groupAt 2 (some (.object "RenewalClocks$Group")) 0 0 g [.ref (ad g h), .int x] M (fun v M2 => M2 = M ∧ ((∃ i, i < n ∧ x = nI i ∧ v = some (.ref (ad g (h + 27 + i)))) ∨ ((∀ i, i < n → x ≠ nI i) ∧ v = some .null))) := by
  refine Cn.intro (lv0 := [some (.ref (ad g h)), some (.int x)]) 0 (by decide +kernel) (Nat.le_of_ble_eq_true rfl) rfl (fun X F r => ?_)
  obtain ⟨hk1, hk2, hkC, hkG⟩ := kd_hall hk
  refine g_iload_n (pc := 0) F dX3_groupAt_0 rfl ?_
  refine g_if_lt (pc := 1) (tgt := 21) F dX3_groupAt_1 (by decide) (fun c1 => ?_) (fun c1 => ?_)
  · refine g_null (pc := 21) F dX3_groupAt_21 ?_
    refine g_aretN (pc := 22) F r dX3_groupAt_22 ⟨rfl, Or.inr ⟨nI_out (by first | exact Or.inl c1 | exact Or.inr c9) (by omega), rfl⟩⟩
  · refine g_iload_n (pc := 4) F dX3_groupAt_4 rfl ?_
    refine g_aload_n (pc := 5) F dX3_groupAt_5 rfl ?_
    refine g_geti (pc := 6) F fl_X3_36 (by assumption) rfl dX3_groupAt_6 ?_
    refine g_icmp_ge (pc := 9) (tgt := 21) F dX3_groupAt_9 (by decide) (fun c9 => ?_) (fun c9 => ?_)
    · rw [hM] at c9
      refine g_null (pc := 21) F dX3_groupAt_21 ?_
      refine g_aretN (pc := 22) F r dX3_groupAt_22 ⟨rfl, Or.inr ⟨nI_out (by first | exact Or.inl c1 | exact Or.inr c9) (by omega), rfl⟩⟩
    · rw [hM] at c9
      obtain ⟨i, hi, hx⟩ := nI_of_range c1 (Int32.not_le.mp c9) (by omega)
      refine g_iload_n (pc := 12) F dX3_groupAt_12 rfl ?_
      refine g_aload_n (pc := 13) F dX3_groupAt_13 rfl ?_
      refine g_getr (pc := 14) F fl_X3_19 (by assumption) rfl dX3_groupAt_14 ?_
      refine g_alenG (pc := 17) F (by assumption) (v := 4) (by decide) dX3_groupAt_17 ?_
      refine g_icmp_lt (pc := 18) (tgt := 23) F dX3_groupAt_18 (by decide) (fun c18 => ?_) (fun c18 => ?_)
      · refine g_aload_n (pc := 23) F dX3_groupAt_23 rfl ?_
        refine g_getr (pc := 24) F fl_X3_19 (by assumption) rfl dX3_groupAt_24 ?_
        refine g_iload_n (pc := 27) F dX3_groupAt_27 rfl ?_
        refine g_aaldG (pc := 28) (q := i) (r := h + 27 + i) F hk2 hx (by omega) (by omega) dX3_groupAt_28 ?_
        refine g_aret (pc := 29) F r dX3_groupAt_29 ?_
        exact ⟨rfl, Or.inl ⟨i, hi, hx, rfl⟩⟩
      · exact absurd (by rw [hx]; exact nI_lt (a := i) (b := 4) (by omega) (by decide)) c18

set_option maxHeartbeats 4000000 in
set_option maxRecDepth 100000 in
theorem c_X3_draw (l : Launch) (g : Gm) (M : Mem) (h : Nat) (hk : kd h = 3) (n : Int32) : Cn l yX3_draw cX3_draw 2 (some .int) 0 0 g [.ref (ad g h), .int n] M (fun v M2 => v = some (.int (if 0 < n then jrem (xnext (M h 5)) n else 0)) ∧ M2 = upd2 M h 5 (xnext (M h 5))) := by
  refine Cn.intro (lv0 := [some (.ref (ad g h)), some (.int n)]) 0 (by decide +kernel) (Nat.le_of_ble_eq_true rfl) rfl (fun X F r => ?_)
  obtain ⟨hk1, hk2, hkC, hkG⟩ := kd_hall hk
  refine g_aload_n (pc := 0) F dX3_draw_0 rfl ?_
  refine g_aload_n (pc := 1) F dX3_draw_1 rfl ?_
  refine g_geti (pc := 2) F fl_X3_23 (by assumption) rfl dX3_draw_2 ?_
  refine g_sipush (pc := 5) (v := 421) F dX3_draw_5 (by decide) ?_
  refine g_imul (pc := 8) F dX3_draw_8 ?_
  refine g_sipush (pc := 9) (v := 1663) F dX3_draw_9 (by decide) ?_
  refine g_iadd (pc := 12) F dX3_draw_12 ?_
  refine g_sipush (pc := 13) (v := 10000) F dX3_draw_13 (by decide) ?_
  refine g_irem (pc := 16) F (by decide) dX3_draw_16 ?_
  refine g_puti (pc := 17) F fl_X3_23 rfl rfl (by assumption) rfl dX3_draw_17 ?_
  refine g_iload_n (pc := 20) F dX3_draw_20 rfl ?_
  refine g_if_le (pc := 21) (tgt := 33) F dX3_draw_21 (by decide) (fun c21 => ?_) (fun c21 => ?_)
  · refine g_iconst (pc := 33) (v := 0) F dX3_draw_33 (by decide) ?_
    refine g_iret (pc := 34) F r dX3_draw_34 ?_
    refine ⟨?_, rfl⟩
    try simp only [upd2_self]
    first | (rw [if_pos (Int32.not_le.mp c21)]; rfl) | rw [if_neg (Int32.not_lt.mpr c21)]
  · refine g_aload_n (pc := 24) F dX3_draw_24 rfl ?_
    refine g_geti (pc := 25) F fl_X3_23 (by assumption) rfl dX3_draw_25 ?_
    refine g_iload_n (pc := 28) F dX3_draw_28 rfl ?_
    refine g_irem (pc := 29) F (fun e => by rw [e] at c21; exact c21 (Int32.le_refl 0)) dX3_draw_29 ?_
    refine g_goto (pc := 30) (tgt := 34) F dX3_draw_30 (by decide) ?_
    refine g_iret (pc := 34) F r dX3_draw_34 ?_
    refine ⟨?_, rfl⟩
    try simp only [upd2_self]
    first | (rw [if_pos (Int32.not_le.mp c21)]; rfl) | rw [if_neg (Int32.not_lt.mpr c21)]

/-- the place in turn, as the remainder has it -/
theorem turn_jrem {q P : Nat} (hq : q ≤ P) (hP0 : 0 < P) (hP : P ≤ 51) : (if nI q < nI P then nI q else 0) = jrem (nI q) (nI P) := by
  rw [jrem_nI (by omega) hP0 (by omega)]
  by_cases h : q < P
  · rw [if_pos ((nI_ltI (by omega) (by omega)).mpr h), Nat.mod_eq_of_lt h]
  · obtain rfl : q = P := by omega
    rw [if_neg (fun e => h ((nI_ltI (by omega) (by omega)).mp e)), Nat.mod_self]
    exact nI0
set_option maxHeartbeats 4000000 in
set_option maxRecDepth 100000 in
theorem c_X3_beginGap (l : Launch) (g : Gm) (M : Mem) (h c : Nat) (hk : kd h = 3) (hc : kd c = 0) (hhc : h + 3 ≤ c) (w : Nat → Int32) (hw : CR M c w) {la a b cc d x q : Nat} (hL : LI w la a b cc d) (hx : x < 10000) (hMx : M h 5 = nI x) (hq : w 5 + 1 = nI q) (hqN : q ≤ NP la b cc d) : Cn l yX3_beginGap cX3_beginGap 2 none 1 21 g [.ref (ad g h), .ref (ad g c)] M (fun v M2 => v = none ∧ M2 h = upd (M h) 5 (bx w (M h 5)) ∧ CR M2 c (bw w (M h 5) (w 5 + 1)) ∧ ∀ a, a ≠ h → a ≠ c → M2 a = M a) := by
  refine Cn.intro (lv0 := [some (.ref (ad g h)), some (.ref (ad g c))]) 0 (by decide +kernel) (Nat.le_of_ble_eq_true rfl) rfl (fun X F r => ?_)
  obtain ⟨hk1, hk2, hkC, hkG⟩ := kd_hall hk
  obtain ⟨hc1, hc2, hc3⟩ := kd_clk hc
  have hN := NP_bound (la := la) (b := b) (c := cc) (d := d) (hL.2.2.2.2.2.2.2.2.1)
  have hqP : q < 2147483648 := by omega
  refine g_aload_n (pc := 0) F dX3_beginGap_0 rfl ?_
  refine g_aload_n (pc := 1) F dX3_beginGap_1 rfl ?_
  refine g_geti (pc := 2) F fl_X3_68 (by assumption) rfl dX3_beginGap_2 ?_
  refine g_iconst (pc := 5) (v := 1) F dX3_beginGap_5 (by decide) ?_
  refine g_icmp_ne (pc := 6) (tgt := 23) F dX3_beginGap_6 (by decide) (fun c6 => ?_) (fun c6 => ?_)
  · rw [hw.1] at c6
    refine g_aload_n (pc := 23) F dX3_beginGap_23 rfl ?_
    refine g_callV (pc := 24) (rf2 := 0) (rl2 := 0) F cs_X3_84 (by assumption) rfl (by decide) (by rfl) (by rfl) (Nat.le_of_ble_eq_true (by rfl)) (by decide) dX3_beginGap_24 (c_X0_placeInTurn _ g _ c hc) (fun v M2 hz => ?_)
    obtain ⟨rfl, h2⟩ := hz
    rw [h2]
    refine g_callV (pc := 27) (rf2 := 0) (rl2 := 0) F cs_X3_88 (by assumption) rfl (by decide) (by rfl) (by rfl) (Nat.le_of_ble_eq_true (by rfl)) (by decide) dX3_beginGap_27 (c_X0_beginAt _ g _ c hc _) (fun v M2 hz => ?_)
    obtain ⟨rfl, rfl⟩ := hz
    refine g_vret (pc := 30) F r dX3_beginGap_30 ?_
    obtain ⟨p, hp, hpe⟩ := bplace_nI hL hx hqP
    have hg := gapF_gapAt hw hL hp
    refine ⟨rfl, ?_, ?_, fun a ha1 ha2 => ?_⟩
    · rw [updr_ne _ _ (show h ≠ c by omega)]
      unfold bx
      rw [if_neg c6]
      funext j
      unfold upd
      split
      · next e => rw [e]
      · rfl
    · unfold CR
      rw [updr_self, updr_ne _ _ (show c + 1 ≠ c by omega), updr_ne _ _ (show c + 2 ≠ c by omega), updr_ne _ _ (show c + 3 ≠ c by omega)]
      have e : (if M c 2 + 1 < M (c + 3) 0 then M c 2 + 1 else 0) = nI p := by
        rw [← hpe, rnd_many hw, LI_places hL, hw.2.2.1, hq, turn_jrem hqN (by omega) (by omega)]
        unfold bplace
        rw [if_neg c6, LI_places hL]
      rw [e, hg, hMx, hq, show bw w (nI x) (nI q) = upd (upd (upd w 5 (nI p)) 6 (gapAt w (nI p))) 7 0 by unfold bw; rw [hpe]]
      exact CRr_beg hw _ _
    · rw [updr_ne _ _ ha2]
  · rw [hw.1] at c6
    refine g_aload_n (pc := 9) F dX3_beginGap_9 rfl ?_
    refine g_aload_n (pc := 10) F dX3_beginGap_10 rfl ?_
    refine g_getr (pc := 11) F fl_X3_71 (by assumption) rfl dX3_beginGap_11 ?_
    refine g_geti (pc := 14) F fl_X3_75 (by assumption) rfl dX3_beginGap_14 ?_
    refine g_callV (pc := 17) (rf2 := 0) (rl2 := 0) F cs_X3_80 (by assumption) rfl (by decide) (by rfl) (by rfl) (Nat.le_of_ble_eq_true (by rfl)) (by decide) dX3_beginGap_17 (c_X3_draw _ g _ h hk _) (fun v M2 hz => ?_)
    obtain ⟨rfl, rfl⟩ := hz
    refine g_goto (pc := 20) (tgt := 27) F dX3_beginGap_20 (by decide) ?_
    refine g_callV (pc := 27) (rf2 := 0) (rl2 := 0) F cs_X3_88 (by assumption) rfl (by decide) (by rfl) (by rfl) (Nat.le_of_ble_eq_true (by rfl)) (by decide) dX3_beginGap_27 (c_X0_beginAt _ g _ c hc _) (fun v M2 hz => ?_)
    obtain ⟨rfl, rfl⟩ := hz
    refine g_vret (pc := 30) F r dX3_beginGap_30 ?_
    obtain ⟨p, hp, hpe⟩ := bplace_nI hL hx hqP
    have hg := gapF_gapAt hw hL hp
    refine ⟨rfl, ?_, ?_, fun a ha1 ha2 => ?_⟩
    · rw [updr_ne _ _ (show h ≠ c by omega)]
      rw [upd2_row]
      unfold bx
      rw [if_pos c6, hMx]
    · unfold CR
      rw [updr_self, updr_ne _ _ (show c + 1 ≠ c by omega), updr_ne _ _ (show c + 2 ≠ c by omega), updr_ne _ _ (show c + 3 ≠ c by omega), upd2_k _ _ _ (show c ≠ h by omega), upd2_k _ _ _ (show c + 1 ≠ h by omega), upd2_k _ _ _ (show c + 2 ≠ h by omega), upd2_k _ _ _ (show c + 3 ≠ h by omega)]
      have e : (if 0 < M (c + 3) 0 then jrem (xnext (M h 5)) (M (c + 3) 0) else 0) = nI p := by
        rw [← hpe, rnd_many hw, LI_places hL, if_pos ((nI_lt0 (by omega)).mpr (by omega)), hMx]
        unfold bplace
        rw [if_pos c6, LI_places hL]
      rw [e, hg, hMx, hq, show bw w (nI x) (nI q) = upd (upd (upd w 5 (nI p)) 6 (gapAt w (nI p))) 7 0 by unfold bw; rw [hpe]]
      exact CRr_beg hw _ _
    · rw [updr_ne _ _ ha2, upd2_k _ _ _ ha1]
end
section
/-- a group's row is changed -/
theorem HR_group {M : Mem} {h : Nat} {S : SV} {i : Nat} {r w : Nat → Int32} (hr : HR M h S) (hc : cn S ≤ 6) (hg : gn S ≤ 4) (hi : i < 4) (hw : ∀ j, j < 4 → r j = w j) : HR (updr M (h + 27 + i) r) h (setGr S i w) := by
  obtain ⟨h0, h1, h2, h3, h4, h5⟩ := hr
  have lo : ∀ k, k < 4 → setGr S i w k = S k := fun k hk => setGr_lo _ _ _ hk
  have ec : cn (setGr S i w) = cn S := by unfold cn; rw [lo 0 (by decide)]
  have eg : gn (setGr S i w) = gn S := by unfold gn; rw [lo 1 (by decide)]
  refine ⟨?_, ?_, ?_, ?_, ?_, ?_⟩
  · rw [updr_ne _ _ (by omega), lo 0 (by decide)]; exact h0
  · rw [updr_ne _ _ (by omega), lo 1 (by decide)]; exact h1
  · rw [updr_ne _ _ (by omega), lo 2 (by decide)]; exact h2
  · rw [updr_ne _ _ (by omega), lo 3 (by decide)]; exact h3
  · rw [ec]
    intro k hk
    show CRr _ _ _ _ _
    rw [updr_ne _ _ (by omega), updr_ne _ _ (by omega), updr_ne _ _ (by omega), updr_ne _ _ (by omega)]
    exact CRr_congr (h4 k hk) (fun j hj => cw_setGr _ _ _ (by omega) hj)
  · rw [eg]
    intro k hk j hj
    by_cases hki : k = i
    · subst hki
      rw [updr_self, gw_setGr _ _ _ hj]
      exact hw j hj
    · rw [updr_ne _ _ (by omega), gw_setGr_ne _ _ hj hki]
      exact h5 k hk j hj
theorem HR_now {M : Mem} {h : Nat} {S : SV} (hr : HR M h S) (hc : cn S ≤ 6) (v : Int32) : HR (upd2 M h 4 v) h (upd S 2 v) := by
  obtain ⟨h0, h1, h2, h3, h4, h5⟩ := hr
  have ec : cn (upd S 2 v) = cn S := by unfold cn; rw [upd_ne _ _ (by decide)]
  have eg : gn (upd S 2 v) = gn S := by unfold gn; rw [upd_ne _ _ (by decide)]
  refine ⟨?_, ?_, ?_, ?_, ?_, ?_⟩
  · rw [upd2_j _ _ _ (by decide), upd_ne _ _ (by decide)]; exact h0
  · rw [upd2_j _ _ _ (by decide), upd_ne _ _ (by decide)]; exact h1
  · rw [upd2_self, upd_self]
  · rw [upd2_j _ _ _ (by decide), upd_ne _ _ (by decide)]; exact h3
  · rw [ec]
    intro k hk
    show CRr _ _ _ _ _
    rw [upd2_k _ _ _ (by omega), upd2_k _ _ _ (by omega), upd2_k _ _ _ (by omega), upd2_k _ _ _ (by omega), cw_upd_lo _ _ _ (by decide)]
    exact h4 k hk
  · rw [eg]
    intro k hk j hj
    rw [upd2_k _ _ _ (by omega), gw_upd_lo _ _ _ (by decide)]
    exact h5 k hk j hj
theorem gtick_congr {r r' : Nat → Int32} (z : Int32) (h : ∀ j, j < 4 → r j = r' j) : ∀ j, j < 4 → gtick r z j = gtick r' z j := by
  intro j hj
  unfold gtick
  rw [h 1 (by decide), h 2 (by decide), h 3 (by decide), h j hj]
theorem peq_told (E : SV) (i : Nat) (u b : Nat → Int32) (x v : Int32) : ∀ k, k < 110 → upd (upd (setC (setC E i u) i b) 3 x) 2 v k = upd (setC (upd E 2 v) i b) 3 x k := by
  intro k _
  by_cases h2 : k = 2
  · subst h2
    rw [upd_self, upd_ne _ _ (by decide), setC_lo _ _ _ (by decide), upd_self]
  · rw [upd_ne _ _ h2]
    by_cases h3 : k = 3
    · subst h3; rw [upd_self, upd_self]
    · rw [upd_ne _ _ h3, upd_ne _ _ h3]
      unfold setC
      by_cases hr : 4 + 15 * i ≤ k ∧ k < 19 + 15 * i
      · rw [if_pos hr, if_pos hr]
      · rw [if_neg hr, if_neg hr, if_neg hr, upd_ne _ _ h2]
theorem peq_age (E : SV) (i : Nat) (b : Nat → Int32) (v : Int32) : ∀ k, k < 110 → upd (setC E i b) 2 v k = upd (setC (upd E 2 v) i b) 3 (E 3) k := by
  intro k _
  by_cases h2 : k = 2
  · subst h2
    rw [upd_self, upd_ne _ _ (by decide), setC_lo _ _ _ (by decide), upd_self]
  · rw [upd_ne _ _ h2]
    by_cases h3 : k = 3
    · subst h3; rw [upd_self, setC_lo _ _ _ (by decide)]
    · rw [upd_ne _ _ h3]
      unfold setC
      by_cases hr : 4 + 15 * i ≤ k ∧ k < 19 + 15 * i
      · rw [if_pos hr, if_pos hr]
      · rw [if_neg hr, if_neg hr, upd_ne _ _ h2]
/-- what a clock's tick leaves of the cells -/
theorem CR_tick {M : Mem} {c : Nat} {w : Nat → Int32} {t : Nat} (h : CR M c w) (hi : CI w t) (hT : t ≤ 100200) : (M c 4 - 1 ≤ 0 ↔ w 6 - (w 7 + 1) = 0) ∧ (M c 4 - 1 ≤ 0 → CR (tickM M c) c (tw (ow w))) ∧ (¬ M c 4 - 1 ≤ 0 → CR (tickM M c) c (ow w)) ∧ ∀ a, a ≠ c → a ≠ c + 2 → tickM M c a = M a := by
  obtain ⟨la, a, b, cc, d, p, gp, ag, sm, sq, hL, h5, hp, h6, g1, g2, h7, ha, h9, hs, h10, hq⟩ := hi
  have e4 : M c 4 - 1 = nI (gp - (ag + 1)) := by
    rw [h.2.2.2.2.1, h6, h7, nI_sub (by omega), nI1, nI_sub (by omega)]
    congr 1
  have e6 : w 6 - (w 7 + 1) = nI (gp - (ag + 1)) := by rw [h6, h7, nI_1, nI_sub (by omega)]
  refine ⟨?_, fun ht => ?_, fun ht => ?_, fun x hx1 hx2 => ?_⟩
  · rw [e4, e6, nI0, nI_leI (by omega) (by decide), nI_inj (by omega) (by decide)]
    omega
  · unfold tickM
    rw [if_pos ht]
    show CRr _ _ _ _ _
    rw [updr_ne _ _ (show c ≠ c + 2 by omega), updr_self, updr_ne _ _ (show c + 1 ≠ c + 2 by omega), updr_ne _ _ (show c + 1 ≠ c by omega), updr_self, updr_ne _ _ (show c + 3 ≠ c + 2 by omega), updr_ne _ _ (show c + 3 ≠ c by omega)]
    have := CRr_told (CRr_age h) (gp := gp) (by unfold ow; rw [upd_ne _ _ (by decide)]; exact h6) g2 (by unfold ow; rw [upd_ne _ _ (by decide)]; exact h9) (by unfold ow; rw [upd_ne _ _ (by decide)]; exact h10) (by omega) hq.1
    rw [show upd (M c) 4 (M c 4 - 1) 3 = M c 3 from upd_ne _ _ (by decide)] at this
    exact this
  · unfold tickM
    rw [if_neg ht]
    show CRr _ _ _ _ _
    rw [updr_self, updr_ne _ _ (show c + 1 ≠ c by omega), updr_ne _ _ (show c + 2 ≠ c by omega), updr_ne _ _ (show c + 3 ≠ c by omega)]
    exact CRr_age h
  · unfold tickM
    split
    · rw [updr_ne _ _ hx2, updr_ne _ _ hx1]
    · rw [updr_ne _ _ hx1]
set_option maxHeartbeats 4000000 in
set_option maxRecDepth 100000 in
/-- a tick ends -/
theorem c_X3_endTick (l : Launch) (g : Gm) (M : Mem) (h : Nat) (hk : kd h = 3) (S : SV) (t : Nat) (hr : HR M h S) (hi : Inv S t) : Cn l yX3_endTick cX3_endTick 3 (some .int) 2 42 g [.ref (ad g h)] M (fun v M2 => v = some (.int (jbc (endsZ S))) ∧ HR M2 h (ends S) ∧ frH M M2 h) := by
  refine Cn.intro (lv0 := [some (.ref (ad g h)), none, none]) 2 (by decide +kernel) (Nat.le_of_ble_eq_true rfl) rfl (fun X F r => ?_)
  obtain ⟨hk1, hk2, hkC, hkG⟩ := kd_hall hk
  have hn := hi.cn_le
  have hm := hi.gn_le
  have hE : ∀ k, k < 3 → (eC S (cn S)).1 k = S k := (eC_inv hi (cn S) (Nat.le_refl _)).1
  have hEG : ∀ i k, k < 3 → eG (eC S (cn S)).1 (eC S (cn S)).2 i k = S k := by
    intro i k hk
    induction i with
    | zero => exact hE k hk
    | succ i ih => exact (setGr_lo _ _ _ (by omega)).trans ih
  have LG : ∀ (n i : Nat) (x : Int32) (M1 : Mem), i + n = gn S → x = nI i → HR M1 h (upd (eG (eC S (cn S)).1 (eC S (cn S)).2 i) 2 (S 2 + 1)) → frH M M1 h → G X g 3 M1 67 [some (.ref (ad g h)), some (.int (eC S (cn S)).2), some (.int x)] [] := by
    intro n
    induction n with
    | zero =>
      intro i x M1 hin hx hr1 hf1
      have hG0 : upd (eG (eC S (cn S)).1 (eC S (cn S)).2 i) 2 (S 2 + 1) 1 = nI (gn S) := by rw [upd_ne _ _ (by decide), hEG i 1 (by decide)]; exact hm.2
      obtain rfl : i = gn S := by omega
      refine g_iload_n (pc := 67) F dX3_endTick_67 rfl ?_
      refine g_aload_n (pc := 68) F dX3_endTick_68 rfl ?_
      refine g_geti (pc := 69) F fl_X3_36 (by assumption) rfl dX3_endTick_69 ?_
      refine g_icmp_ge (pc := 72) (tgt := 100) F dX3_endTick_72 (by decide) (fun c72 => ?_) (fun c72 => ?_)
      · refine g_iload_n (pc := 100) F dX3_endTick_100 rfl ?_
        refine g_callS (pc := 101) (rf2 := 0) (rl2 := 0) F cs_X3_102 (by rfl) (by rfl) (Nat.le_of_ble_eq_true (by rfl)) (by decide) dX3_endTick_101 (c_J6_bitCount_0f7a4 _ g _ _) (fun v M2 hz => ?_)
        obtain ⟨rfl, h2⟩ := hz
        rw [h2]
        refine g_iret (pc := 104) F r dX3_endTick_104 ?_
        exact ⟨rfl, hr1, hf1⟩
      · exact absurd (by rw [hr1.2.1, hG0, hx]; exact nI_le (by omega) (by omega)) c72
    | succ n ih =>
      intro i x M1 hin hx hr1 hf1
      have hG0 : upd (eG (eC S (cn S)).1 (eC S (cn S)).2 i) 2 (S 2 + 1) 1 = nI (gn S) := by rw [upd_ne _ _ (by decide), hEG i 1 (by decide)]; exact hm.2
      have hTc : cn (upd (eG (eC S (cn S)).1 (eC S (cn S)).2 i) 2 (S 2 + 1)) ≤ 6 := by
        have e : cn (upd (eG (eC S (cn S)).1 (eC S (cn S)).2 i) 2 (S 2 + 1)) = cn S := congrArg Int32.toNatClampNeg ((upd_ne _ _ (by decide)).trans (hEG i 0 (by decide)))
        rw [e]; exact hn.1
      have hTe : gn (upd (eG (eC S (cn S)).1 (eC S (cn S)).2 i) 2 (S 2 + 1)) = gn S := congrArg Int32.toNatClampNeg ((upd_ne _ _ (by decide)).trans (hEG i 1 (by decide)))
      have hTg : gn (upd (eG (eC S (cn S)).1 (eC S (cn S)).2 i) 2 (S 2 + 1)) ≤ 4 := by rw [hTe]; exact hm.1
      refine g_iload_n (pc := 67) F dX3_endTick_67 rfl ?_
      refine g_aload_n (pc := 68) F dX3_endTick_68 rfl ?_
      refine g_geti (pc := 69) F fl_X3_36 (by assumption) rfl dX3_endTick_69 ?_
      refine g_icmp_ge (pc := 72) (tgt := 100) F dX3_endTick_72 (by decide) (fun c72 => ?_) (fun c72 => ?_)
      · exact absurd c72 (by rw [hr1.2.1, hG0, hx]; exact nI_ge (by omega) (by omega))
      · refine g_iload_n (pc := 75) F dX3_endTick_75 rfl ?_
        refine g_aload_n (pc := 76) F dX3_endTick_76 rfl ?_
        refine g_getr (pc := 77) F fl_X3_19 (by assumption) rfl dX3_endTick_77 ?_
        refine g_alenG (pc := 80) F (by assumption) (v := 4) (by decide) dX3_endTick_80 ?_
        refine g_icmp_ge (pc := 81) (tgt := 100) F dX3_endTick_81 (by decide) (fun c81 => ?_) (fun c81 => ?_)
        · exact absurd c81 (by rw [hx]; exact nI_ge (a := i) (b := 4) (by omega) (by decide))
        · refine g_aload_n (pc := 84) F dX3_endTick_84 rfl ?_
          refine g_getr (pc := 85) F fl_X3_19 (by assumption) rfl dX3_endTick_85 ?_
          refine g_iload_n (pc := 88) F dX3_endTick_88 rfl ?_
          refine g_aaldG (pc := 89) (q := i) (r := h + 27 + i) F hk2 hx (by omega) (by omega) dX3_endTick_89 ?_
          refine g_iload_n (pc := 90) F dX3_endTick_90 rfl ?_
          refine g_callV (pc := 91) (rf2 := 1) (rl2 := 20) F cs_X3_100 (hkG i (by omega)) rfl (by decide) (by rfl) (by rfl) (Nat.le_of_ble_eq_true (by rfl)) (by decide) dX3_endTick_91 (c_X2_passTick _ g _ (h + 27 + i) (hkG i (by omega)) _) (fun v M2 hz => ?_)
          obtain ⟨rfl, rfl⟩ := hz
          refine g_iinc (pc := 94) F dX3_endTick_94 rfl rfl (by decide) rfl ?_
          refine g_goto (pc := 97) (tgt := 67) F dX3_endTick_97 (by decide) ?_
          refine G.sub [some (.ref (ad g h)), some (.int (eC S (cn S)).2), some (.int (x + Int32.ofInt 1))] ⟨rfl, rfl, rfl, trivial⟩ (ih (i + 1) _ _ (by omega) (by rw [hx]; exact nI_1 i) ?_ ?_)
          · have e1 : eG (eC S (cn S)).1 (eC S (cn S)).2 (i + 1) = setGr (eG (eC S (cn S)).1 (eC S (cn S)).2 i) i (gtick (gw (eG (eC S (cn S)).1 (eC S (cn S)).2 i) i) (eC S (cn S)).2) := rfl
            rw [e1]
            refine HR_congr (HR_group hr1 hTc hTg (i := i) (by omega) (gtick_congr _ (fun j hj => hr1.2.2.2.2.2 i (by omega) j hj))) ?_ ?_ (fun k hk => ?_)
            · show (setGr _ i _ 0).toNatClampNeg ≤ 6
              rw [setGr_lo _ _ _ (by decide)]
              exact hTc
            · show (setGr _ i _ 1).toNatClampNeg ≤ 4
              rw [setGr_lo _ _ _ (by decide)]
              exact hTg
            · rw [gw_upd_lo _ _ _ (by decide)]
              by_cases h2 : k = 2
              · subst h2; rw [upd_self, setGr_lo _ _ _ (by decide), upd_self]
              · rw [upd_ne _ _ h2]
                unfold setGr
                split
                · rfl
                · rw [upd_ne _ _ h2]
          · exact hf1.trans (fun y hy => updr_ne _ _ (by omega))
  have LC : ∀ (n i : Nat) (x : Int32) (M1 : Mem), i + n = cn S → x = nI i → HR M1 h (upd (eC S i).1 2 (S 2 + 1)) → frH M M1 h → G X g 3 M1 14 [some (.ref (ad g h)), some (.int (eC S i).2), some (.int x)] [] := by
    intro n
    induction n with
    | zero =>
      intro i x M1 hin hx hr1 hf1
      obtain ⟨ei0, -⟩ := eC_inv hi i (by omega)
      have hT0 : upd (eC S i).1 2 (S 2 + 1) 0 = nI (cn S) := by rw [upd_ne _ _ (by decide), ei0 0 (by decide)]; exact hn.2
      obtain rfl : i = cn S := by omega
      refine g_iload_n (pc := 14) F dX3_endTick_14 rfl ?_
      refine g_aload_n (pc := 15) F dX3_endTick_15 rfl ?_
      refine g_geti (pc := 16) F fl_X3_29 (by assumption) rfl dX3_endTick_16 ?_
      refine g_icmp_ge (pc := 19) (tgt := 65) F dX3_endTick_19 (by decide) (fun c19 => ?_) (fun c19 => ?_)
      · refine g_iconst (pc := 65) (v := 0) F dX3_endTick_65 (by decide) ?_
        refine g_istore_n (pc := 66) F dX3_endTick_66 (by decide) rfl ?_
        exact LG (gn S) 0 _ M1 (by omega) nI_0.symm hr1 hf1
      · exact absurd (by rw [hr1.1, hT0, hx]; exact nI_le (by omega) (by omega)) c19
    | succ n ih =>
      intro i x M1 hin hx hr1 hf1
      obtain ⟨ei0, ⟨xx, hxx, hx3⟩, ei3, ei4, -, -⟩ := eC_inv hi i (by omega)
      have hT0 : upd (eC S i).1 2 (S 2 + 1) 0 = nI (cn S) := by rw [upd_ne _ _ (by decide), ei0 0 (by decide)]; exact hn.2
      have hTe : cn (upd (eC S i).1 2 (S 2 + 1)) = cn S := by unfold cn; rw [upd_ne _ _ (by decide), ei0 0 (by decide)]
      have hTc : cn (upd (eC S i).1 2 (S 2 + 1)) ≤ 6 := by rw [hTe]; exact hn.1
      have hTg : gn (upd (eC S i).1 2 (S 2 + 1)) ≤ 4 := by unfold gn; rw [upd_ne _ _ (by decide), ei0 1 (by decide)]; exact hm.1
      have hCI : CI (cw (eC S i).1 i) t := CI_congr (hi.2.2.2.2.2.1 i (by omega)) (fun j hj => ei4 i (by omega) (Nat.le_refl i) j hj)
      have hCR : CR M1 (h + 3 + 4 * i) (cw (eC S i).1 i) := by
        have := hr1.2.2.2.2.1 i (by omega)
        rw [cw_upd_lo _ _ _ (by decide)] at this
        exact this
      obtain ⟨k1, k2, k3, k4⟩ := CR_tick hCR hCI hi.2.2.2.1
      obtain ⟨la, a, b, cc, d, p, gp, ag, sm, sq, hLI, hp5, hpN, -⟩ := hCI
      refine g_iload_n (pc := 14) F dX3_endTick_14 rfl ?_
      refine g_aload_n (pc := 15) F dX3_endTick_15 rfl ?_
      refine g_geti (pc := 16) F fl_X3_29 (by assumption) rfl dX3_endTick_16 ?_
      refine g_icmp_ge (pc := 19) (tgt := 65) F dX3_endTick_19 (by decide) (fun c19 => ?_) (fun c19 => ?_)
      · exact absurd c19 (by rw [hr1.1, hT0, hx]; exact nI_ge (by omega) (by omega))
      · refine g_iload_n (pc := 22) F dX3_endTick_22 rfl ?_
        refine g_aload_n (pc := 23) F dX3_endTick_23 rfl ?_
        refine g_getr (pc := 24) F fl_X3_11 (by assumption) rfl dX3_endTick_24 ?_
        refine g_alenK (pc := 27) F (by assumption) (v := 6) (by decide) dX3_endTick_27 ?_
        refine g_icmp_ge (pc := 28) (tgt := 65) F dX3_endTick_28 (by decide) (fun c28 => ?_) (fun c28 => ?_)
        · exact absurd c28 (by rw [hx]; exact nI_ge (a := i) (b := 6) (by omega) (by decide))
        · refine g_aload_n (pc := 31) F dX3_endTick_31 rfl ?_
          refine g_getr (pc := 32) F fl_X3_11 (by assumption) rfl dX3_endTick_32 ?_
          refine g_iload_n (pc := 35) F dX3_endTick_35 rfl ?_
          refine g_aaldK (pc := 36) (q := i) (r := h + 3 + 4 * i) F hk1 hx (by omega) (by omega) dX3_endTick_36 ?_
          refine g_callV (pc := 37) (rf2 := 1) (rl2 := 22) F cs_X3_96 (hkC i (by omega)) rfl (by decide) (by rfl) (by rfl) (Nat.le_of_ble_eq_true (by rfl)) (by decide) dX3_endTick_37 (c_X0_passTick _ g _ (h + 3 + 4 * i) (hkC i (by omega))) (fun v M2 hz => ?_)
          obtain ⟨rfl, rfl⟩ := hz
          refine g_if_eq (pc := 40) (tgt := 59) F dX3_endTick_40 (by decide) (fun c40 => ?_) (fun c40 => ?_)
          · have hT : ¬ M1 (h + 3 + 4 * i) 4 - 1 ≤ 0 := fun e => by unfold b2i at c40; rw [if_pos e] at c40; exact absurd c40 (by decide)
            refine g_iinc (pc := 59) F dX3_endTick_59 rfl rfl (by decide) rfl ?_
            refine g_goto (pc := 62) (tgt := 14) F dX3_endTick_62 (by decide) ?_
            refine G.sub [some (.ref (ad g h)), some (.int (eC S (i + 1)).2), some (.int (x + Int32.ofInt 1))] ⟨?_, ?_, ?_, trivial⟩ (ih (i + 1) _ _ (by omega) (by rw [hx]; exact nI_1 i) ?_ ?_)
            · rfl
            · show some (Value.int _) = some (Value.int (if _ then _ else _))
              rw [if_neg (fun e => hT (k1.mpr e))]
            · rfl
            · have e1 : (eC S (i + 1)).1 = setC (eC S i).1 i (ow (cw (eC S i).1 i)) := by
                show sC _ i = _
                unfold sC
                rw [if_neg (fun e => hT (k1.mpr e))]
              rw [e1]
              refine HR_congr (HR_clock (i := i) (w := ow (cw (eC S i).1 i)) (x := (eC S i).1 3) hr1 hTc hTg (by omega) ?_ (fun y y1 y2 y3 y4 => k4 y (by omega) (by omega)) (k3 hT)) ?_ ?_ (peq_age _ _ _ _)
              · rw [k4 h (by omega) (by omega)]
                funext j
                unfold upd
                split
                · next e => rw [e, hr1.2.2.2.1, upd_ne _ _ (by decide)]
                · rfl
              · show (upd (setC _ i _) 3 _ 0).toNatClampNeg ≤ 6
                rw [upd_ne _ _ (by decide), setC_lo _ _ _ (by decide)]
                exact hTc
              · show (upd (setC _ i _) 3 _ 1).toNatClampNeg ≤ 4
                rw [upd_ne _ _ (by decide), setC_lo _ _ _ (by decide)]
                exact hTg
            · exact hf1.trans (fun y hy => k4 y (by omega) (by omega))
          · have hT : M1 (h + 3 + 4 * i) 4 - 1 ≤ 0 := Classical.byContradiction (fun e => by unfold b2i at c40; rw [if_neg e] at c40; exact c40 rfl)
            refine g_iload_n (pc := 43) F dX3_endTick_43 rfl ?_
            refine g_iconst (pc := 44) (v := 1) F dX3_endTick_44 (by decide) ?_
            refine g_iload_n (pc := 45) F dX3_endTick_45 rfl ?_
            refine g_ishl (pc := 46) F dX3_endTick_46 ?_
            refine g_ior (pc := 47) F dX3_endTick_47 ?_
            refine g_istore_n (pc := 48) F dX3_endTick_48 (by decide) rfl ?_
            refine g_aload_n (pc := 49) F dX3_endTick_49 rfl ?_
            refine g_aload_n (pc := 50) F dX3_endTick_50 rfl ?_
            refine g_getr (pc := 51) F fl_X3_11 (by assumption) rfl dX3_endTick_51 ?_
            refine g_iload_n (pc := 54) F dX3_endTick_54 rfl ?_
            refine g_aaldK (pc := 55) (q := i) (r := h + 3 + 4 * i) F hk1 hx (by omega) (by omega) dX3_endTick_55 ?_
            have hCR2 := CRr_congr (w' := cw (setC (eC S i).1 i (tw (ow (cw (eC S i).1 i)))) i) (k2 hT) (fun j hj => cw_setC _ _ _ hj)
            have hMh : tickM M1 (h + 3 + 4 * i) h = M1 h := k4 h (by omega) (by omega)
            have hw5 : cw (setC (eC S i).1 i (tw (ow (cw (eC S i).1 i)))) i 5 + 1 = nI (p + 1) := by
              rw [cw_setC _ _ _ (by decide), ← nI_1, ← hp5]
              rfl
            have hLI2 : LI (cw (setC (eC S i).1 i (tw (ow (cw (eC S i).1 i)))) i) la a b cc d := LI_congr hLI (fun j hj => by
              rw [cw_setC _ _ _ (by omega)]
              unfold tw ow
              rw [upd_ne _ _ (by omega), upd_ne _ _ (by omega), upd_ne _ _ (by omega), upd_ne _ _ (by omega), upd_ne _ _ (by omega)])
            refine g_callV (pc := 56) (rf2 := 1) (rl2 := 21) F cs_X3_55 (by assumption) rfl (by decide) (by rfl) (by rfl) (Nat.le_of_ble_eq_true (by rfl)) (by decide) dX3_endTick_56 (c_X3_beginGap _ g _ h (h + 3 + 4 * i) hk (hkC i (by omega)) (by omega) _ hCR2 hLI2 hxx (by rw [hMh, hr1.2.2.2.1, upd_ne _ _ (by decide)]; exact hx3) hw5 (by omega)) (fun v M2 hz => ?_)
            obtain ⟨rfl, q1, q2, q3⟩ := hz
            refine g_iinc (pc := 59) F dX3_endTick_59 rfl rfl (by decide) rfl ?_
            refine g_goto (pc := 62) (tgt := 14) F dX3_endTick_62 (by decide) ?_
            refine G.sub [some (.ref (ad g h)), some (.int (eC S (i + 1)).2), some (.int (x + Int32.ofInt 1))] ⟨?_, ?_, ?_, trivial⟩ (ih (i + 1) _ _ (by omega) (by rw [hx]; exact nI_1 i) ?_ ?_)
            · rfl
            · show some (Value.int _) = some (Value.int (if _ then _ else _))
              rw [if_pos (k1.mp hT), hx]
            · rfl
            · have e1 : (eC S (i + 1)).1 = beg (setC (eC S i).1 i (tw (ow (cw (eC S i).1 i)))) i (cw (eC S i).1 i 5 + 1) := by
                show sC _ i = _
                unfold sC
                rw [if_pos (k1.mp hT)]
              rw [e1]
              unfold beg
              have e5 : cw (eC S i).1 i 5 + 1 = cw (setC (eC S i).1 i (tw (ow (cw (eC S i).1 i)))) i 5 + 1 := by rw [cw_setC _ _ _ (by decide)]; rfl
              have e3 : tickM M1 (h + 3 + 4 * i) h 5 = setC (eC S i).1 i (tw (ow (cw (eC S i).1 i))) 3 := by rw [hMh, hr1.2.2.2.1, upd_ne _ _ (by decide), setC_lo _ _ _ (by decide)]
              rw [e5]
              rw [e3] at q1 q2
              rw [hMh] at q1
              refine HR_congr (HR_clock (i := i) hr1 hTc hTg (by omega) q1 (fun y y1 y2 y3 y4 => (q3 y y3 (by omega)).trans (k4 y (by omega) (by omega))) q2) ?_ ?_ (peq_told _ _ _ _ _ _)
              · show (upd (setC _ i _) 3 _ 0).toNatClampNeg ≤ 6
                rw [upd_ne _ _ (by decide), setC_lo _ _ _ (by decide)]
                exact hTc
              · show (upd (setC _ i _) 3 _ 1).toNatClampNeg ≤ 4
                rw [upd_ne _ _ (by decide), setC_lo _ _ _ (by decide)]
                exact hTg
            · exact (hf1.trans (fun y hy => k4 y (by omega) (by omega))).trans (fun y hy => q3 y (by omega) (by omega))
  refine g_aload_n (pc := 0) F dX3_endTick_0 rfl ?_
  refine g_dup (pc := 1) F dX3_endTick_1 rfl ?_
  refine g_geti (pc := 2) F fl_X3_42 (by assumption) rfl dX3_endTick_2 ?_
  refine g_iconst (pc := 5) (v := 1) F dX3_endTick_5 (by decide) ?_
  refine g_iadd (pc := 6) F dX3_endTick_6 ?_
  refine g_puti (pc := 7) F fl_X3_42 rfl rfl (by assumption) rfl dX3_endTick_7 ?_
  refine g_iconst (pc := 10) (v := 0) F dX3_endTick_10 (by decide) ?_
  refine g_istore_n (pc := 11) F dX3_endTick_11 (by decide) rfl ?_
  refine g_iconst (pc := 12) (v := 0) F dX3_endTick_12 (by decide) ?_
  refine g_istore_n (pc := 13) F dX3_endTick_13 (by decide) rfl ?_
  exact LC (cn S) 0 _ _ (by omega) nI_0.symm (by rw [hr.2.2.1]; exact HR_now hr hn.1 _) (fun y hy => upd2_k _ _ _ (by omega))
end
section
/-! WHAT THE CALLS DO, on a state: the answer, and the state behind -/
abbrev inC (S : SV) (x : Int32) : Prop := 0 ≤ x ∧ x < S 0
abbrev inG (S : SV) (x : Int32) : Prop := 0 ≤ x ∧ x < S 1
abbrev ixN (x : Int32) : Nat := x.toNatClampNeg
theorem inC_of {S : SV} {t : Nat} (hi : Inv S t) {i : Nat} (h : i < cn S) : inC S (nI i) := ⟨nI_pos' (by have := hi.cn_le.1; omega), by rw [hi.cn_le.2]; exact nI_lt h (by have := hi.cn_le.1; omega)⟩
theorem inG_of {S : SV} {t : Nat} (hi : Inv S t) {i : Nat} (h : i < gn S) : inG S (nI i) := ⟨nI_pos' (by have := hi.gn_le.1; omega), by rw [hi.gn_le.2]; exact nI_lt h (by have := hi.gn_le.1; omega)⟩
theorem inC_ex {S : SV} {t : Nat} (hi : Inv S t) {x : Int32} (h : inC S x) : ∃ i, i < cn S ∧ x = nI i := by
  have h2 := h.2
  rw [hi.cn_le.2] at h2
  exact nI_of_range (Int32.not_lt.mpr h.1) h2 (by have := hi.cn_le.1; omega)
theorem inG_ex {S : SV} {t : Nat} (hi : Inv S t) {x : Int32} (h : inG S x) : ∃ i, i < gn S ∧ x = nI i := by
  have h2 := h.2
  rw [hi.gn_le.2] at h2
  exact nI_of_range (Int32.not_lt.mpr h.1) h2 (by have := hi.gn_le.1; omega)
theorem inC_not {S : SV} {t : Nat} (hi : Inv S t) {x : Int32} (h : ∀ i, i < cn S → x ≠ nI i) : ¬ inC S x := fun e => by
  obtain ⟨i, h1, h2⟩ := inC_ex hi e
  exact h i h1 h2
theorem inG_not {S : SV} {t : Nat} (hi : Inv S t) {x : Int32} (h : ∀ i, i < gn S → x ≠ nI i) : ¬ inG S x := fun e => by
  obtain ⟨i, h1, h2⟩ := inG_ex hi e
  exact h i h1 h2
theorem ixN_nI {i : Nat} (h : i < 2147483648) : ixN (nI i) = i := nI_clamp h
/-! truth as 1 and 0 -/
noncomputable def cb (P : Prop) : Int32 := @ite _ P (Classical.propDecidable P) 1 0
theorem cb_t {P : Prop} (h : P) : cb P = 1 := by unfold cb; rw [if_pos h]
theorem cb_f {P : Prop} (h : ¬ P) : cb P = 0 := by unfold cb; rw [if_neg h]
theorem cb_0 {P : Prop} (h : cb P = 0) : ¬ P := fun e => by rw [cb_t e] at h; exact absurd h (by decide)
theorem cb_1 {P : Prop} (h : ¬ cb P = 0) : P := Classical.byContradiction fun e => h (cb_f e)
/-! laws and their numbers -/
def lawP (x : Int32) : Prop := 0 ≤ x ∧ x ≤ 2
def gapP (x : Int32) : Prop := 1 ≤ x ∧ x ≤ 50
def mfP (x y : Int32) : Prop := y = 0 ∨ (x ≠ 0 ∧ gapP y)
def clockP (la a b c d : Int32) : Prop := lawP la ∧ gapP a ∧ (la = 2 → gapP b ∧ gapP c ∧ d = 0) ∧ (la ≠ 2 → mfP a b ∧ mfP b c ∧ mfP c d)
/-- a fresh clock's numbers, at the place p -/
def w0 (la a b c d p : Int32) : Nat → Int32 := fun j => if j = 0 then la else if j = 1 then a else if j = 2 then b else if j = 3 then c else if j = 4 then d else if j = 5 then p else 0
theorem lawP_nI {x : Int32} (h : lawP x) : ∃ n, n ≤ 2 ∧ x = nI n := nI_of2 (M := 2) (n := 2) rfl (Int32.not_lt.mpr h.1) h.2
theorem gapP_nI {x : Int32} (h : gapP x) : ∃ n, 1 ≤ n ∧ n ≤ 50 ∧ x = nI n := by
  have h0 : ¬ x < 0 := fun e => by
    have a1 := Int32.lt_iff_toInt_lt.mp e
    have a2 := Int32.le_iff_toInt_le.mp h.1
    have e0 : (0 : Int32).toInt = 0 := rfl
    have e1 : (1 : Int32).toInt = 1 := rfl
    omega
  obtain ⟨n, hn, rfl⟩ := nI_of2 (M := 50) (n := 50) rfl h0 h.2
  refine ⟨n, ?_, hn, rfl⟩
  have := h.1
  rw [nI1, nI_leI (by decide) (by omega)] at this
  exact this
theorem mfP_nI {x y : Int32} (h : mfP x y) : ∃ n, n ≤ 50 ∧ y = nI n ∧ (x = 0 → n = 0) := by
  rcases h with rfl | ⟨h1, h2⟩
  · exact ⟨0, by decide, nI0, fun _ => rfl⟩
  · obtain ⟨n, a1, a2, rfl⟩ := gapP_nI h2
    exact ⟨n, a2, rfl, fun e => absurd e h1⟩
theorem clockP_LI {la a b c d p : Int32} (h : clockP la a b c d) : ∃ l' a' b' c' d', LI (w0 la a b c d p) l' a' b' c' d' := by
  obtain ⟨h1, h2, h3, h4⟩ := h
  obtain ⟨l', l1, rfl⟩ := lawP_nI h1
  obtain ⟨a', a1, a2, rfl⟩ := gapP_nI h2
  by_cases hl : nI l' = 2
  · have hl' : l' = 2 := by rw [nI2, nI_inj (by omega) (by decide)] at hl; exact hl
    obtain ⟨g1, g2, rfl⟩ := h3 hl
    obtain ⟨b', b1, b2, rfl⟩ := gapP_nI g1
    obtain ⟨c', c1, c2, rfl⟩ := gapP_nI g2
    exact ⟨l', a', b', c', 0, rfl, rfl, rfl, rfl, nI0, l1, a1, a2, b2, c2, by decide, fun _ => ⟨b1, c1, rfl⟩, fun e => absurd hl' e⟩
  · have hl' : ¬ l' = 2 := fun e => hl (by rw [e]; exact nI2.symm)
    obtain ⟨g1, g2, g3⟩ := h4 hl
    obtain ⟨b', b1, rfl, b2⟩ := mfP_nI g1
    obtain ⟨c', c1, rfl, c2⟩ := mfP_nI g2
    obtain ⟨d', d1, rfl, d2⟩ := mfP_nI g3
    exact ⟨l', a', b', c', d', rfl, rfl, rfl, rfl, rfl, l1, a1, a2, b1, c1, d1, fun e => absurd e hl', fun _ => ⟨fun e => c2 (by rw [e]; exact nI0.symm), fun e => d2 (by rw [e]; exact nI0.symm)⟩⟩
/-! the calls -/
def addC (S : SV) (la a b c d : Int32) : SV := beg (upd (setC S (cn S) (w0 la a b c d 0)) 0 (S 0 + 1)) (cn S) 0
noncomputable def oClock (S : SV) (la a b c d : Int32) : Int32 × SV := @ite _ (clockP la a b c d) (Classical.propDecidable _) (if S 0 = 6 then (-1000003, S) else (S 0, addC S la a b c d)) (-1000001, S)
def wnd (S : SV) (i : Nat) : SV := setC (beg S i (cw S i 5 + 1)) i (upd (cw (beg S i (cw S i 5 + 1)) i) 14 (cw (beg S i (cw S i 5 + 1)) i 14 + 1))
def oWind (S : SV) (x : Int32) : Int32 × SV := if inC S x then (cw (wnd S (ixN x)) (ixN x) 6, wnd S (ixN x)) else (-1000001, S)
/-- so many ticks: the gaps told, and the state -/
def endsN (S : SV) : Nat → Int32 × SV
  | 0 => (0, S)
  | k + 1 => ((endsN S k).1 + jbc (endsZ (endsN S k).2), ends (endsN S k).2)
abbrev ticksP (k : Int32) : Prop := 1 ≤ k ∧ k ≤ 200
def oTick (S : SV) (k : Int32) : Int32 × SV := if ticksP k then (if S 2 + k ≤ 99999 then endsN S (ixN k) else (-1000003, S)) else (-1000001, S)
def pasC (S : SV) (i : Nat) : SV := setC S i (upd (upd (cw S i) 12 (cw S i 12 + 1)) 13 (cw S i 13 + (cw S i 6 - cw S i 7)))
def oPass (S : SV) (x : Int32) : Int32 × SV := if inC S x then (cw S (ixN x) 6 - cw S (ixN x) 7, pasC S (ixN x)) else (-1000001, S)
def g0 (la : Int32) : Nat → Int32 := fun j => if j = 0 then la else 0
noncomputable def oGroup (S : SV) (la : Int32) : Int32 × SV := @ite _ (lawP la) (Classical.propDecidable _) (if S 1 = 4 then (-1000003, S) else (S 1, upd (setGr S (gn S) (g0 la)) 1 (S 1 + 1))) (-1000001, S)
/-- is clock i in the set z -/
abbrev isIn (z : Int32) (i : Nat) : Prop := ¬ z &&& (1 <<< (nI i &&& 31)) = 0
def mem1 (S : SV) (gi : Nat) (z : Int32) : SV := setGr S gi (upd (gw S gi) 1 z)
def oJoin (S : SV) (gx x : Int32) : Int32 × SV := if inG S gx ∧ inC S x then (if cw S (ixN x) 0 ≠ gw S (ixN gx) 0 ∨ isIn (gw S (ixN gx) 1) (ixN x) then (-1000002, S) else if jbc (gw S (ixN gx) 1) < 4 then (jbc (gw S (ixN gx) 1 ||| (1 <<< (nI (ixN x) &&& 31))), mem1 S (ixN gx) (gw S (ixN gx) 1 ||| (1 <<< (nI (ixN x) &&& 31)))) else (-1000003, S)) else (-1000001, S)
def oLeave (S : SV) (gx x : Int32) : Int32 × SV := if inG S gx ∧ inC S x then (if isIn (gw S (ixN gx) 1) (ixN x) then (jbc (gw S (ixN gx) 1 &&& ((1 <<< (nI (ixN x) &&& 31)) ^^^ -1)), mem1 S (ixN gx) (gw S (ixN gx) 1 &&& ((1 <<< (nI (ixN x) &&& 31)) ^^^ -1))) else (-1000002, S)) else (-1000001, S)
/-! what a clock's rows say, of the changes of one clock -/
theorem CRr_wound {r0 r1 r2 r3 w : Nat → Int32} (h : CRr r0 r1 r2 r3 w) : CRr (upd r0 7 (r0 7 + 1)) r1 r2 r3 (upd w 14 (w 14 + 1)) := by
  obtain ⟨h0, h1, h2, h3, h4, h5, h6, h7, h8, h9, h10, h11, h12, h13⟩ := h
  refine ⟨h0, fun j hj => ?_, h2, h3, h4, h5, h6, ?_, h8, h9, h10, h11, h12, fun j hj => ?_⟩
  · rw [upd_ne _ _ (by omega)]; exact h1 j hj
  · rw [upd_self, upd_self, h7]
  · rw [h13 j hj]
    exact rndR_congr _ (fun _ _ => rfl) (fun i hi => by rw [upd_ne _ _ (by omega)]) j hj
theorem CRr_pass {r0 r1 r2 r3 w : Nat → Int32} (h : CRr r0 r1 r2 r3 w) : CRr (upd (upd r0 5 (r0 5 + 1)) 6 (r0 6 + r0 4)) r1 r2 r3 (upd (upd w 12 (w 12 + 1)) 13 (w 13 + (w 6 - w 7))) := by
  obtain ⟨h0, h1, h2, h3, h4, h5, h6, h7, h8, h9, h10, h11, h12, h13⟩ := h
  refine ⟨h0, fun j hj => ?_, h2, h3, h4, ?_, ?_, h7, h8, h9, h10, h11, h12, fun j hj => ?_⟩
  · rw [upd_ne _ _ (by omega), upd_ne _ _ (by omega)]; exact h1 j hj
  · show r0 5 + 1 = w 12 + 1
    rw [h5]
  · show r0 6 + r0 4 = w 13 + (w 6 - w 7)
    rw [h6, h4]
  · rw [h13 j hj]
    exact rndR_congr _ (fun _ _ => rfl) (fun i hi => by rw [upd_ne _ _ (by omega), upd_ne _ _ (by omega)]) j hj
theorem CR_set (M : Mem) (k : Nat) (la a b c d : Int32) : CR (csetM M k la a b c d) k (w0 la a b c d (-1)) := by
  unfold csetM CR
  rw [updr_ne _ _ (show k ≠ k + 3 by omega), updr_ne _ _ (show k ≠ k + 2 by omega), updr_self, updr_ne _ _ (show k + 1 ≠ k + 3 by omega), updr_ne _ _ (show k + 1 ≠ k + 2 by omega), updr_ne _ _ (show k + 1 ≠ k by omega), updr_self, updr_ne _ _ (show k + 2 ≠ k + 3 by omega), updr_self, updr_self]
  refine ⟨rfl, fun j hj => ?_, rfl, rfl, ?_, rfl, rfl, rfl, rfl, rfl, rfl, ?_, rfl, fun j hj => ?_⟩
  · match j, hj with
    | 0, _ | 1, _ | 2, _ | 3, _ => rfl
  · show (0 : Int32) = 0 - 0
    decide
  · show (0 : Int32) = (0 + 0) / 2
    decide
  · refine rndR_congr _ (fun i hi => by unfold rzero; rw [if_pos hi]) (fun i hi => ?_) j hj
    match i, hi with
    | 0, _ | 1, _ | 2, _ | 3, _ => rfl
/-- one clock's rows are changed, and nothing else -/
theorem HR_clk {M M2 : Mem} {h : Nat} {S : SV} {i : Nat} {w : Nat → Int32} (hr : HR M h S) (hc : cn S ≤ 6) (hg : gn S ≤ 4) (hi : i < 6) (e : ∀ a, h ≤ a → a < h + 31 → (a < h + 3 + 4 * i ∨ h + 7 + 4 * i ≤ a) → M2 a = M a) (hw : CR M2 (h + 3 + 4 * i) w) : HR M2 h (setC S i w) := by
  refine HR_congr (HR_clock (x := S 3) hr hc hg hi ?_ (fun a a1 a2 a3 a4 => e a a1 a2 a4) hw) ?_ ?_ (fun k hk => ?_)
  · rw [e h (by omega) (by omega) (by omega)]
    funext j
    unfold upd
    split
    · next q => rw [q]; exact hr.2.2.2.1
    · rfl
  · show (upd (setC S i w) 3 (S 3) 0).toNatClampNeg ≤ 6
    rw [upd_ne _ _ (by decide), setC_lo _ _ _ (by decide)]
    exact hc
  · show (upd (setC S i w) 3 (S 3) 1).toNatClampNeg ≤ 4
    rw [upd_ne _ _ (by decide), setC_lo _ _ _ (by decide)]
    exact hg
  · by_cases h3 : k = 3
    · subst h3; rw [upd_self, setC_lo _ _ _ (by decide)]
    · rw [upd_ne _ _ h3]
theorem cn_beg (S : SV) (i : Nat) (q : Int32) : cn (beg S i q) = cn S := by
  unfold cn beg
  rw [upd_ne _ _ (by decide), setC_lo _ _ _ (by decide)]
theorem gn_beg (S : SV) (i : Nat) (q : Int32) : gn (beg S i q) = gn S := by
  unfold gn beg
  rw [upd_ne _ _ (by decide), setC_lo _ _ _ (by decide)]
end
section
set_option maxHeartbeats 4000000 in
set_option maxRecDepth 100000 in
theorem c_X7_isLaw (l : Launch) (g : Gm) (M : Mem) (x : Int32) : Cn l yX7_isLaw cX7_isLaw 1 (some .boolean) 0 0 g [.int x] M (fun v M2 => v = some (.int (cb (lawP x))) ∧ M2 = M) := by
  refine Cn.intro (lv0 := [some (.int x)]) 0 (by decide +kernel) (Nat.le_of_ble_eq_true rfl) rfl (fun X F r => ?_)
  refine g_iload_n (pc := 0) F dX7_isLaw_0 rfl ?_
  refine g_if_lt (pc := 1) (tgt := 13) F dX7_isLaw_1 (by decide) (fun c1 => ?_) (fun c1 => ?_)
  · refine g_iconst (pc := 13) (v := 0) F dX7_isLaw_13 (by decide) ?_
    refine g_zret (pc := 14) F (by decide) r dX7_isLaw_14 ?_
    exact ⟨congrArg (fun z => some (Value.int z)) (cb_f (fun e => Int32.not_lt.mpr e.1 c1)).symm, rfl⟩
  · refine g_iload_n (pc := 4) F dX7_isLaw_4 rfl ?_
    refine g_iconst (pc := 5) (v := 2) F dX7_isLaw_5 (by decide) ?_
    refine g_icmp_gt (pc := 6) (tgt := 13) F dX7_isLaw_6 (by decide) (fun c6 => ?_) (fun c6 => ?_)
    · refine g_iconst (pc := 13) (v := 0) F dX7_isLaw_13 (by decide) ?_
      refine g_zret (pc := 14) F (by decide) r dX7_isLaw_14 ?_
      exact ⟨congrArg (fun z => some (Value.int z)) (cb_f (fun e => Int32.not_lt.mpr e.2 c6)).symm, rfl⟩
    · refine g_iconst (pc := 9) (v := 1) F dX7_isLaw_9 (by decide) ?_
      refine g_goto (pc := 10) (tgt := 14) F dX7_isLaw_10 (by decide) ?_
      refine g_zret (pc := 14) F (by decide) r dX7_isLaw_14 ?_
      exact ⟨congrArg (fun z => some (Value.int z)) (cb_t ⟨Int32.not_lt.mp c1, Int32.not_lt.mp c6⟩).symm, rfl⟩

set_option maxHeartbeats 4000000 in
set_option maxRecDepth 100000 in
theorem c_X7_isGap (l : Launch) (g : Gm) (M : Mem) (x : Int32) : Cn l yX7_isGap cX7_isGap 1 (some .boolean) 0 0 g [.int x] M (fun v M2 => v = some (.int (cb (gapP x))) ∧ M2 = M) := by
  refine Cn.intro (lv0 := [some (.int x)]) 0 (by decide +kernel) (Nat.le_of_ble_eq_true rfl) rfl (fun X F r => ?_)
  refine g_iload_n (pc := 0) F dX7_isGap_0 rfl ?_
  refine g_iconst (pc := 1) (v := 1) F dX7_isGap_1 (by decide) ?_
  refine g_icmp_lt (pc := 2) (tgt := 15) F dX7_isGap_2 (by decide) (fun c2 => ?_) (fun c2 => ?_)
  · refine g_iconst (pc := 15) (v := 0) F dX7_isGap_15 (by decide) ?_
    refine g_zret (pc := 16) F (by decide) r dX7_isGap_16 ?_
    exact ⟨congrArg (fun z => some (Value.int z)) (cb_f (fun e => Int32.not_lt.mpr e.1 c2)).symm, rfl⟩
  · refine g_iload_n (pc := 5) F dX7_isGap_5 rfl ?_
    refine g_bipush (pc := 6) (v := 50) F dX7_isGap_6 (by decide) ?_
    refine g_icmp_gt (pc := 8) (tgt := 15) F dX7_isGap_8 (by decide) (fun c8 => ?_) (fun c8 => ?_)
    · refine g_iconst (pc := 15) (v := 0) F dX7_isGap_15 (by decide) ?_
      refine g_zret (pc := 16) F (by decide) r dX7_isGap_16 ?_
      exact ⟨congrArg (fun z => some (Value.int z)) (cb_f (fun e => Int32.not_lt.mpr e.2 c8)).symm, rfl⟩
    · refine g_iconst (pc := 11) (v := 1) F dX7_isGap_11 (by decide) ?_
      refine g_goto (pc := 12) (tgt := 16) F dX7_isGap_12 (by decide) ?_
      refine g_zret (pc := 16) F (by decide) r dX7_isGap_16 ?_
      exact ⟨congrArg (fun z => some (Value.int z)) (cb_t ⟨Int32.not_lt.mp c2, Int32.not_lt.mp c8⟩).symm, rfl⟩

set_option maxHeartbeats 4000000 in
set_option maxRecDepth 100000 in
theorem c_X7_mayFollow (l : Launch) (g : Gm) (M : Mem) (x y : Int32) : Cn l yX7_mayFollow cX7_mayFollow 2 (some .boolean) 1 20 g [.int x, .int y] M (fun v M2 => v = some (.int (cb (mfP x y))) ∧ M2 = M) := by
  refine Cn.intro (lv0 := [some (.int x), some (.int y)]) 0 (by decide +kernel) (Nat.le_of_ble_eq_true rfl) rfl (fun X F r => ?_)
  refine g_iload_n (pc := 0) F dX7_mayFollow_0 rfl ?_
  refine g_if_eq (pc := 1) (tgt := 15) F dX7_mayFollow_1 (by decide) (fun c1 => ?_) (fun c1 => ?_)
  · refine g_iconst (pc := 15) (v := 1) F dX7_mayFollow_15 (by decide) ?_
    refine g_goto (pc := 16) (tgt := 20) F dX7_mayFollow_16 (by decide) ?_
    refine g_zret (pc := 20) F (by decide) r dX7_mayFollow_20 ?_
    exact ⟨congrArg (fun z => some (Value.int z)) (cb_t (Or.inl c1)).symm, rfl⟩
  · refine g_iload_n (pc := 4) F dX7_mayFollow_4 rfl ?_
    refine g_if_eq (pc := 5) (tgt := 19) F dX7_mayFollow_5 (by decide) (fun c5 => ?_) (fun c5 => ?_)
    · refine g_iconst (pc := 19) (v := 0) F dX7_mayFollow_19 (by decide) ?_
      refine g_zret (pc := 20) F (by decide) r dX7_mayFollow_20 ?_
      exact ⟨congrArg (fun z => some (Value.int z)) (cb_f (fun e => e.elim c1 (fun q => q.1 c5))).symm, rfl⟩
    · refine g_iload_n (pc := 8) F dX7_mayFollow_8 rfl ?_
      refine g_callS (pc := 9) (rf2 := 0) (rl2 := 0) F cs_X7_216 (by rfl) (by rfl) (Nat.le_of_ble_eq_true (by rfl)) (by decide) dX7_mayFollow_9 (c_X7_isGap _ g _ _) (fun v M2 hz => ?_)
      obtain ⟨rfl, h2⟩ := hz
      rw [h2]
      refine g_if_eq (pc := 12) (tgt := 19) F dX7_mayFollow_12 (by decide) (fun c12 => ?_) (fun c12 => ?_)
      · refine g_iconst (pc := 19) (v := 0) F dX7_mayFollow_19 (by decide) ?_
        refine g_zret (pc := 20) F (by decide) r dX7_mayFollow_20 ?_
        exact ⟨congrArg (fun z => some (Value.int z)) (cb_f (fun e => e.elim c1 (fun q => cb_0 c12 q.2))).symm, rfl⟩
      · refine g_iconst (pc := 15) (v := 1) F dX7_mayFollow_15 (by decide) ?_
        refine g_goto (pc := 16) (tgt := 20) F dX7_mayFollow_16 (by decide) ?_
        refine g_zret (pc := 20) F (by decide) r dX7_mayFollow_20 ?_
        exact ⟨congrArg (fun z => some (Value.int z)) (cb_t (Or.inr ⟨c5, cb_1 c12⟩)).symm, rfl⟩

set_option maxHeartbeats 4000000 in
set_option maxRecDepth 100000 in
theorem c_X7_isClock (l : Launch) (g : Gm) (M : Mem) (la a b c d : Int32) : Cn l yX7_isClock cX7_isClock 5 (some .boolean) 2 41 g [.int la, .int a, .int b, .int c, .int d] M (fun v M2 => v = some (.int (cb (clockP la a b c d))) ∧ M2 = M) := by
  refine Cn.intro (lv0 := [some (.int la), some (.int a), some (.int b), some (.int c), some (.int d)]) 0 (by decide +kernel) (Nat.le_of_ble_eq_true rfl) rfl (fun X F r => ?_)
  refine g_iload_n (pc := 0) F dX7_isClock_0 rfl ?_
  refine g_callS (pc := 1) (rf2 := 0) (rl2 := 0) F cs_X7_212 (by rfl) (by rfl) (Nat.le_of_ble_eq_true (by rfl)) (by decide) dX7_isClock_1 (c_X7_isLaw _ g _ _) (fun v M2 hz => ?_)
  obtain ⟨rfl, h2⟩ := hz
  rw [h2]
  refine g_if_eq (pc := 4) (tgt := 14) F dX7_isClock_4 (by decide) (fun c4 => ?_) (fun c4 => ?_)
  · refine g_iconst (pc := 14) (v := 0) F dX7_isClock_14 (by decide) ?_
    refine g_zret (pc := 15) F (by decide) r dX7_isClock_15 ?_
    exact ⟨congrArg (fun z => some (Value.int z)) (cb_f (fun e => cb_0 c4 e.1)).symm, rfl⟩
  · refine g_iload_n (pc := 7) F dX7_isClock_7 rfl ?_
    refine g_callS (pc := 8) (rf2 := 0) (rl2 := 0) F cs_X7_216 (by rfl) (by rfl) (Nat.le_of_ble_eq_true (by rfl)) (by decide) dX7_isClock_8 (c_X7_isGap _ g _ _) (fun v M2 hz => ?_)
    obtain ⟨rfl, h2⟩ := hz
    rw [h2]
    refine g_if_ne (pc := 11) (tgt := 16) F dX7_isClock_11 (by decide) (fun c11 => ?_) (fun c11 => ?_)
    · refine g_iload_n (pc := 16) F dX7_isClock_16 rfl ?_
      refine g_iconst (pc := 17) (v := 2) F dX7_isClock_17 (by decide) ?_
      refine g_icmp_ne (pc := 18) (tgt := 46) F dX7_isClock_18 (by decide) (fun c18 => ?_) (fun c18 => ?_)
      · refine g_iload_n (pc := 46) F dX7_isClock_46 rfl ?_
        refine g_iload_n (pc := 47) F dX7_isClock_47 rfl ?_
        refine g_callS (pc := 48) (rf2 := 1) (rl2 := 20) F cs_X7_219 (by rfl) (by rfl) (Nat.le_of_ble_eq_true (by rfl)) (by decide) dX7_isClock_48 (c_X7_mayFollow _ g _ _ _) (fun v M2 hz => ?_)
        obtain ⟨rfl, h2⟩ := hz
        rw [h2]
        refine g_if_eq (pc := 51) (tgt := 75) F dX7_isClock_51 (by decide) (fun c51 => ?_) (fun c51 => ?_)
        · refine g_iconst (pc := 75) (v := 0) F dX7_isClock_75 (by decide) ?_
          refine g_zret (pc := 76) F (by decide) r dX7_isClock_76 ?_
          exact ⟨congrArg (fun z => some (Value.int z)) (cb_f (fun e => cb_0 c51 (e.2.2.2 c18).1)).symm, rfl⟩
        · refine g_iload_n (pc := 54) F dX7_isClock_54 rfl ?_
          refine g_iload_n (pc := 55) F dX7_isClock_55 rfl ?_
          refine g_callS (pc := 56) (rf2 := 1) (rl2 := 20) F cs_X7_219 (by rfl) (by rfl) (Nat.le_of_ble_eq_true (by rfl)) (by decide) dX7_isClock_56 (c_X7_mayFollow _ g _ _ _) (fun v M2 hz => ?_)
          obtain ⟨rfl, h2⟩ := hz
          rw [h2]
          refine g_if_eq (pc := 59) (tgt := 75) F dX7_isClock_59 (by decide) (fun c59 => ?_) (fun c59 => ?_)
          · refine g_iconst (pc := 75) (v := 0) F dX7_isClock_75 (by decide) ?_
            refine g_zret (pc := 76) F (by decide) r dX7_isClock_76 ?_
            exact ⟨congrArg (fun z => some (Value.int z)) (cb_f (fun e => cb_0 c59 (e.2.2.2 c18).2.1)).symm, rfl⟩
          · refine g_iload_n (pc := 62) F dX7_isClock_62 rfl ?_
            refine g_iload (pc := 63) F dX7_isClock_63 rfl ?_
            refine g_callS (pc := 65) (rf2 := 1) (rl2 := 20) F cs_X7_219 (by rfl) (by rfl) (Nat.le_of_ble_eq_true (by rfl)) (by decide) dX7_isClock_65 (c_X7_mayFollow _ g _ _ _) (fun v M2 hz => ?_)
            obtain ⟨rfl, h2⟩ := hz
            rw [h2]
            refine g_if_eq (pc := 68) (tgt := 75) F dX7_isClock_68 (by decide) (fun c68 => ?_) (fun c68 => ?_)
            · refine g_iconst (pc := 75) (v := 0) F dX7_isClock_75 (by decide) ?_
              refine g_zret (pc := 76) F (by decide) r dX7_isClock_76 ?_
              exact ⟨congrArg (fun z => some (Value.int z)) (cb_f (fun e => cb_0 c68 (e.2.2.2 c18).2.2)).symm, rfl⟩
            · refine g_iconst (pc := 71) (v := 1) F dX7_isClock_71 (by decide) ?_
              refine g_goto (pc := 72) (tgt := 76) F dX7_isClock_72 (by decide) ?_
              refine g_zret (pc := 76) F (by decide) r dX7_isClock_76 ?_
              exact ⟨congrArg (fun z => some (Value.int z)) (cb_t ⟨cb_1 c4, cb_1 c11, fun e => absurd e c18, fun _ => ⟨cb_1 c51, cb_1 c59, cb_1 c68⟩⟩).symm, rfl⟩
      · refine g_iload_n (pc := 21) F dX7_isClock_21 rfl ?_
        refine g_callS (pc := 22) (rf2 := 0) (rl2 := 0) F cs_X7_216 (by rfl) (by rfl) (Nat.le_of_ble_eq_true (by rfl)) (by decide) dX7_isClock_22 (c_X7_isGap _ g _ _) (fun v M2 hz => ?_)
        obtain ⟨rfl, h2⟩ := hz
        rw [h2]
        refine g_if_eq (pc := 25) (tgt := 44) F dX7_isClock_25 (by decide) (fun c25 => ?_) (fun c25 => ?_)
        · refine g_iconst (pc := 44) (v := 0) F dX7_isClock_44 (by decide) ?_
          refine g_zret (pc := 45) F (by decide) r dX7_isClock_45 ?_
          exact ⟨congrArg (fun z => some (Value.int z)) (cb_f (fun e => cb_0 c25 (e.2.2.1 c18).1)).symm, rfl⟩
        · refine g_iload_n (pc := 28) F dX7_isClock_28 rfl ?_
          refine g_callS (pc := 29) (rf2 := 0) (rl2 := 0) F cs_X7_216 (by rfl) (by rfl) (Nat.le_of_ble_eq_true (by rfl)) (by decide) dX7_isClock_29 (c_X7_isGap _ g _ _) (fun v M2 hz => ?_)
          obtain ⟨rfl, h2⟩ := hz
          rw [h2]
          refine g_if_eq (pc := 32) (tgt := 44) F dX7_isClock_32 (by decide) (fun c32 => ?_) (fun c32 => ?_)
          · refine g_iconst (pc := 44) (v := 0) F dX7_isClock_44 (by decide) ?_
            refine g_zret (pc := 45) F (by decide) r dX7_isClock_45 ?_
            exact ⟨congrArg (fun z => some (Value.int z)) (cb_f (fun e => cb_0 c32 (e.2.2.1 c18).2.1)).symm, rfl⟩
          · refine g_iload (pc := 35) F dX7_isClock_35 rfl ?_
            refine g_if_ne (pc := 37) (tgt := 44) F dX7_isClock_37 (by decide) (fun c37 => ?_) (fun c37 => ?_)
            · refine g_iconst (pc := 44) (v := 0) F dX7_isClock_44 (by decide) ?_
              refine g_zret (pc := 45) F (by decide) r dX7_isClock_45 ?_
              exact ⟨congrArg (fun z => some (Value.int z)) (cb_f (fun e => c37 (e.2.2.1 c18).2.2)).symm, rfl⟩
            · refine g_iconst (pc := 40) (v := 1) F dX7_isClock_40 (by decide) ?_
              refine g_goto (pc := 41) (tgt := 45) F dX7_isClock_41 (by decide) ?_
              refine g_zret (pc := 45) F (by decide) r dX7_isClock_45 ?_
              exact ⟨congrArg (fun z => some (Value.int z)) (cb_t ⟨cb_1 c4, cb_1 c11, fun _ => ⟨cb_1 c25, cb_1 c32, c37⟩, fun e => absurd c18 e⟩).symm, rfl⟩
    · refine g_iconst (pc := 14) (v := 0) F dX7_isClock_14 (by decide) ?_
      refine g_zret (pc := 15) F (by decide) r dX7_isClock_15 ?_
      exact ⟨congrArg (fun z => some (Value.int z)) (cb_f (fun e => cb_0 c11 e.2.1)).symm, rfl⟩

set_option maxHeartbeats 4000000 in
set_option maxRecDepth 100000 in
theorem c_X3_windClock (l : Launch) (g : Gm) (M : Mem) (h : Nat) (hk : kd h = 3) (S : SV) (t : Nat) (hr : HR M h S) (hi : Inv S t) (x : Int32) : Cn l yX3_windClock cX3_windClock 3 (some .int) 2 42 g [.ref (ad g h), .int x] M (fun v M2 => v = some (.int (oWind S x).1) ∧ HR M2 h (oWind S x).2 ∧ frH M M2 h) := by
  refine Cn.intro (lv0 := [some (.ref (ad g h)), some (.int x), none]) 1 (by decide +kernel) (Nat.le_of_ble_eq_true rfl) rfl (fun X F r => ?_)
  obtain ⟨hk1, hk2, hkC, hkG⟩ := kd_hall hk
  have hn := hi.cn_le
  have hm := hi.gn_le
  refine g_aload_n (pc := 0) F dX3_windClock_0 rfl ?_
  refine g_iload_n (pc := 1) F dX3_windClock_1 rfl ?_
  refine g_callV (pc := 2) (rf2 := 0) (rl2 := 0) F cs_X3_58 (by assumption) rfl (by decide) (by rfl) (by rfl) (Nat.le_of_ble_eq_true (by rfl)) (by decide) dX3_windClock_2 (c_X3_clockAt _ g _ h hk (cn S) hn.1 (hr.1.trans hn.2) x) (fun v M2 hz => ?_)
  obtain ⟨h2, hz⟩ := hz
  rw [h2]
  rcases hz with ⟨i, hi6, hx, rfl⟩ | ⟨hno, rfl⟩
  · refine g_astore_n (pc := 5) F dX3_windClock_5 (by decide) rfl ?_
    refine g_aload_n (pc := 6) F dX3_windClock_6 rfl ?_
    refine g_ifnonnull (pc := 7) (tgt := 13) F dX3_windClock_7 (by decide) ?_
    refine g_aload_n (pc := 13) F dX3_windClock_13 rfl ?_
    refine g_aload_n (pc := 14) F dX3_windClock_14 rfl ?_
    obtain ⟨la, a, b, cc, d, p, gp, ag, sm, sq, hLI, hp5, hpN, -⟩ := hi.2.2.2.2.2.1 i hi6
    obtain ⟨xx, hxx, hx3⟩ := hi.2.2.2.2.1
    refine g_callV (pc := 15) (rf2 := 1) (rl2 := 21) F cs_X3_55 (by assumption) rfl (by decide) (by rfl) (by rfl) (Nat.le_of_ble_eq_true (by rfl)) (by decide) dX3_windClock_15 (c_X3_beginGap _ g _ h (h + 3 + 4 * i) hk (hkC i (by omega)) (by omega) _ (hr.2.2.2.2.1 i hi6) hLI hxx (hr.2.2.2.1.trans hx3) (by rw [hp5, nI_1]) (by omega)) (fun v M2 hz => ?_)
    obtain ⟨rfl, q1, q2, q3⟩ := hz
    have hkc := hkC i (by omega)
    have hB : HR M2 h (beg S i (cw S i 5 + 1)) := by
      rw [hr.2.2.2.1] at q1 q2
      exact HR_clock hr hn.1 hm.1 (by omega) q1 (fun y y1 y2 y3 y4 => q3 y y3 (by omega)) q2
    have hcb : cn (beg S i (cw S i 5 + 1)) = cn S := cn_beg _ _ _
    have hgb := gn_beg S i (cw S i 5 + 1)
    refine g_aload_n (pc := 18) F dX3_windClock_18 rfl ?_
    refine g_dup (pc := 19) F dX3_windClock_19 rfl ?_
    refine g_geti (pc := 20) F fl_X3_62 (by assumption) rfl dX3_windClock_20 ?_
    refine g_iconst (pc := 23) (v := 1) F dX3_windClock_23 (by decide) ?_
    refine g_iadd (pc := 24) F dX3_windClock_24 ?_
    refine g_puti (pc := 25) F fl_X3_62 rfl rfl (by assumption) rfl dX3_windClock_25 ?_
    refine g_aload_n (pc := 28) F dX3_windClock_28 rfl ?_
    refine g_geti (pc := 29) F fl_X3_65 (by assumption) rfl dX3_windClock_29 ?_
    refine g_iret (pc := 32) F r dX3_windClock_32 ?_
    subst hx
    have e : oWind S (nI i) = (cw (wnd S i) i 6, wnd S i) := by
      unfold oWind
      rw [if_pos (inC_of hi hi6), ixN_nI (by omega)]
    rw [e]
    have hW := CRr_wound (hB.2.2.2.2.1 i (by omega))
    have hR : HR (upd2 M2 (h + 3 + 4 * i) 7 (M2 (h + 3 + 4 * i) 7 + 1)) h (wnd S i) := by
      unfold wnd
      refine HR_clk hB (by omega) (by omega) (by omega) (fun y y1 y2 y3 => upd2_k _ _ _ (by omega)) ?_
      show CRr _ _ _ _ _
      rw [upd2_row, upd2_k _ _ _ (by omega), upd2_k _ _ _ (by omega), upd2_k _ _ _ (by omega)]
      exact hW
    refine ⟨?_, hR, fun y hy => (upd2_k _ _ _ (by omega)).trans (q3 y (by omega) (by omega))⟩
    have h6 := (hR.2.2.2.2.1 i (by
      unfold wnd cn
      rw [setC_lo _ _ _ (by decide)]
      have := hcb
      unfold cn at this
      rw [this]
      exact hi6)).2.2.2.1
    rw [h6]
  · refine g_astore_nN (pc := 5) F dX3_windClock_5 (by decide) rfl ?_
    refine g_aload_nN (pc := 6) F dX3_windClock_6 rfl ?_
    refine g_ifnonnullN (pc := 7) F dX3_windClock_7 ?_
    refine g_ldc (pc := 10) F wk_X3_49 dX3_windClock_10 ?_
    refine g_iret (pc := 12) F r dX3_windClock_12 ?_
    have e : oWind S x = (-1000001, S) := if_neg (inC_not hi hno)
    rw [e]
    exact ⟨rfl, hr, frH.refl _ _⟩

set_option maxHeartbeats 4000000 in
set_option maxRecDepth 100000 in
theorem c_X3_addPassenger (l : Launch) (g : Gm) (M : Mem) (h : Nat) (hk : kd h = 3) (S : SV) (t : Nat) (hr : HR M h S) (hi : Inv S t) (x : Int32) : Cn l yX3_addPassenger cX3_addPassenger 3 (some .int) 1 21 g [.ref (ad g h), .int x] M (fun v M2 => v = some (.int (oPass S x).1) ∧ HR M2 h (oPass S x).2 ∧ frH M M2 h) := by
  refine Cn.intro (lv0 := [some (.ref (ad g h)), some (.int x), none]) 1 (by decide +kernel) (Nat.le_of_ble_eq_true rfl) rfl (fun X F r => ?_)
  obtain ⟨hk1, hk2, hkC, hkG⟩ := kd_hall hk
  have hn := hi.cn_le
  have hm := hi.gn_le
  refine g_aload_n (pc := 0) F dX3_addPassenger_0 rfl ?_
  refine g_iload_n (pc := 1) F dX3_addPassenger_1 rfl ?_
  refine g_callV (pc := 2) (rf2 := 0) (rl2 := 0) F cs_X3_58 (by assumption) rfl (by decide) (by rfl) (by rfl) (Nat.le_of_ble_eq_true (by rfl)) (by decide) dX3_addPassenger_2 (c_X3_clockAt _ g _ h hk (cn S) hn.1 (hr.1.trans hn.2) x) (fun v M2 hz => ?_)
  obtain ⟨h2, hz⟩ := hz
  rw [h2]
  rcases hz with ⟨i, hi6, hx, rfl⟩ | ⟨hno, rfl⟩
  · refine g_astore_n (pc := 5) F dX3_addPassenger_5 (by decide) rfl ?_
    refine g_aload_n (pc := 6) F dX3_addPassenger_6 rfl ?_
    refine g_ifnonnull (pc := 7) (tgt := 13) F dX3_addPassenger_7 (by decide) ?_
    have hkc := hkC i (by omega)
    refine g_aload_n (pc := 13) F dX3_addPassenger_13 rfl ?_
    refine g_dup (pc := 14) F dX3_addPassenger_14 rfl ?_
    refine g_geti (pc := 15) F fl_X3_107 (by assumption) rfl dX3_addPassenger_15 ?_
    refine g_iconst (pc := 18) (v := 1) F dX3_addPassenger_18 (by decide) ?_
    refine g_iadd (pc := 19) F dX3_addPassenger_19 ?_
    refine g_puti (pc := 20) F fl_X3_107 rfl rfl (by assumption) rfl dX3_addPassenger_20 ?_
    refine g_aload_n (pc := 23) F dX3_addPassenger_23 rfl ?_
    refine g_dup (pc := 24) F dX3_addPassenger_24 rfl ?_
    refine g_geti (pc := 25) F fl_X3_110 (by assumption) rfl dX3_addPassenger_25 ?_
    refine g_aload_n (pc := 28) F dX3_addPassenger_28 rfl ?_
    refine g_geti (pc := 29) F fl_X3_113 (by assumption) rfl dX3_addPassenger_29 ?_
    refine g_iadd (pc := 32) F dX3_addPassenger_32 ?_
    refine g_puti (pc := 33) F fl_X3_110 rfl rfl (by assumption) rfl dX3_addPassenger_33 ?_
    refine g_aload_n (pc := 36) F dX3_addPassenger_36 rfl ?_
    refine g_geti (pc := 37) F fl_X3_113 (by assumption) rfl dX3_addPassenger_37 ?_
    refine g_iret (pc := 40) F r dX3_addPassenger_40 ?_
    subst hx
    have e : oPass S (nI i) = (cw S i 6 - cw S i 7, pasC S i) := by
      unfold oPass
      rw [if_pos (inC_of hi hi6), ixN_nI (by omega)]
    rw [e]
    have hC := hr.2.2.2.2.1 i hi6
    simp only [upd2_updr, updr_upd2, updr_self, updr_updr]
    refine ⟨?_, ?_, fun y hy => updr_ne _ _ (by omega)⟩
    · rw [upd_ne _ _ (by decide), upd_ne _ _ (by decide), hC.2.2.2.2.1]
    · unfold pasC
      refine HR_clk hr hn.1 hm.1 (by omega) (fun y y1 y2 y3 => updr_ne _ _ (by omega)) ?_
      show CRr _ _ _ _ _
      rw [updr_self, updr_ne _ _ (by omega), updr_ne _ _ (by omega), updr_ne _ _ (by omega)]
      exact CRr_pass hC
  · refine g_astore_nN (pc := 5) F dX3_addPassenger_5 (by decide) rfl ?_
    refine g_aload_nN (pc := 6) F dX3_addPassenger_6 rfl ?_
    refine g_ifnonnullN (pc := 7) F dX3_addPassenger_7 ?_
    refine g_ldc (pc := 10) F wk_X3_49 dX3_addPassenger_10 ?_
    refine g_iret (pc := 12) F r dX3_addPassenger_12 ?_
    have e : oPass S x = (-1000001, S) := if_neg (inC_not hi hno)
    rw [e]
    exact ⟨rfl, hr, frH.refl _ _⟩

theorem endsN_inv {S : SV} {t : Nat} (hi : Inv S t) : ∀ k, t + k ≤ 100200 → Inv (endsN S k).2 (t + k) := by
  intro k
  induction k with
  | zero => intro _; exact hi
  | succ k ih => intro hk; exact Inv_ends (ih (by omega)) (by omega)
theorem ticksP_nI {k : Int32} (h : ticksP k) : ∃ n, 1 ≤ n ∧ n ≤ 200 ∧ k = nI n := by
  have h0 : ¬ k < 0 := fun e => by
    have a1 := Int32.lt_iff_toInt_lt.mp e
    have a2 := Int32.le_iff_toInt_le.mp h.1
    have e0 : (0 : Int32).toInt = 0 := rfl
    have e1 : (1 : Int32).toInt = 1 := rfl
    omega
  obtain ⟨n, hn, rfl⟩ := nI_of2 (M := 200) (n := 200) rfl h0 h.2
  refine ⟨n, ?_, hn, rfl⟩
  have := h.1
  rw [nI1, nI_leI (by decide) (by omega)] at this
  exact this
set_option maxHeartbeats 4000000 in
set_option maxRecDepth 100000 in
theorem c_X3_endTicks (l : Launch) (g : Gm) (M : Mem) (h : Nat) (hk : kd h = 3) (S : SV) (t : Nat) (hr : HR M h S) (hi : Inv S t) (k : Int32) : Cn l yX3_endTicks cX3_endTicks 4 (some .int) 3 64 g [.ref (ad g h), .int k] M (fun v M2 => v = some (.int (oTick S k).1) ∧ HR M2 h (oTick S k).2 ∧ frH M M2 h) := by
  refine Cn.intro (lv0 := [some (.ref (ad g h)), some (.int k), none, none]) 2 (by decide +kernel) (Nat.le_of_ble_eq_true rfl) rfl (fun X F r => ?_)
  obtain ⟨hk1, hk2, hkC, hkG⟩ := kd_hall hk
  have hn := hi.cn_le
  have hm := hi.gn_le
  have hS2 := hr.2.2.1.trans hi.2.2.1
  refine g_iload_n (pc := 0) F dX3_endTicks_0 rfl ?_
  refine g_iconst (pc := 1) (v := 1) F dX3_endTicks_1 (by decide) ?_
  refine g_icmp_lt (pc := 2) (tgt := 12) F dX3_endTicks_2 (by decide) (fun c2 => ?_) (fun c2 => ?_)
  · refine g_ldc (pc := 12) F wk_X3_49 dX3_endTicks_12 ?_
    refine g_iret (pc := 14) F r dX3_endTicks_14 ?_
    have eO : oTick S k = (-1000001, S) := by
      unfold oTick
      exact if_neg (fun e => Int32.not_lt.mpr e.1 c2)
    rw [eO]
    exact ⟨rfl, hr, frH.refl _ _⟩
  · skip
    refine g_iload_n (pc := 5) F dX3_endTicks_5 rfl ?_
    refine g_sipush (pc := 6) (v := 200) F dX3_endTicks_6 (by decide) ?_
    refine g_icmp_le (pc := 9) (tgt := 15) F dX3_endTicks_9 (by decide) (fun c9 => ?_) (fun c9 => ?_)
    · obtain ⟨kn, k1, k2, hkn⟩ := ticksP_nI (k := k) ⟨Int32.not_lt.mp c2, c9⟩
      refine g_aload_n (pc := 15) F dX3_endTicks_15 rfl ?_
      refine g_geti (pc := 16) F fl_X3_42 (by assumption) rfl dX3_endTicks_16 ?_
      refine g_iload_n (pc := 19) F dX3_endTicks_19 rfl ?_
      refine g_iadd (pc := 20) F dX3_endTicks_20 ?_
      refine g_ldc (pc := 21) F wk_X3_92 dX3_endTicks_21 ?_
      refine g_icmp_le (pc := 23) (tgt := 29) F dX3_endTicks_23 (by decide) (fun c23 => ?_) (fun c23 => ?_)
      · rw [hr.2.2.1] at c23
        have ht1 : t + kn ≤ 99999 := by
          rw [hi.2.2.1, hkn, nI_add] at c23
          exact (nI_leI (b := 99999) (by have := hi.2.2.2.1; omega) (by decide)).mp c23
        have eO : oTick S k = endsN S kn := by
          unfold oTick
          rw [if_pos ⟨Int32.not_lt.mp c2, c9⟩, if_pos c23, hkn, ixN_nI (by omega)]
        rw [eO] at r
        have L : ∀ (n i : Nat) (x : Int32) (M1 : Mem), i + n = kn → x = nI i → HR M1 h (endsN S i).2 → frH M M1 h → G X g 4 M1 33 [some (.ref (ad g h)), some (.int k), some (.int (endsN S i).1), some (.int x)] [] := by
          intro n
          induction n with
          | zero =>
            intro i x M1 hin hx hr1 hf1
            obtain rfl : i = kn := by omega
            refine g_iload_n (pc := 33) F dX3_endTicks_33 rfl ?_
            refine g_iload_n (pc := 34) F dX3_endTicks_34 rfl ?_
            refine g_icmp_ge (pc := 35) (tgt := 51) F dX3_endTicks_35 (by decide) (fun c35 => ?_) (fun c35 => ?_)
            · refine g_iload_n (pc := 51) F dX3_endTicks_51 rfl ?_
              refine g_iret (pc := 52) F r dX3_endTicks_52 ?_
              exact ⟨rfl, hr1, hf1⟩
            · exact absurd (by rw [hx, hkn]; exact nI_le (by omega) (by omega)) c35
          | succ n ih =>
            intro i x M1 hin hx hr1 hf1
            refine g_iload_n (pc := 33) F dX3_endTicks_33 rfl ?_
            refine g_iload_n (pc := 34) F dX3_endTicks_34 rfl ?_
            refine g_icmp_ge (pc := 35) (tgt := 51) F dX3_endTicks_35 (by decide) (fun c35 => ?_) (fun c35 => ?_)
            · exact absurd c35 (by rw [hx, hkn]; exact nI_ge (by omega) (by omega))
            · refine g_iload_n (pc := 38) F dX3_endTicks_38 rfl ?_
              refine g_aload_n (pc := 39) F dX3_endTicks_39 rfl ?_
              refine g_callV (pc := 40) (rf2 := 2) (rl2 := 42) F cs_X3_93 (by assumption) rfl (by decide) (by rfl) (by rfl) (Nat.le_of_ble_eq_true (by rfl)) (by decide) dX3_endTicks_40 (c_X3_endTick _ g _ h hk _ _ hr1 (endsN_inv hi i (by omega))) (fun v M2 hz => ?_)
              obtain ⟨rfl, q1, q2⟩ := hz
              refine g_iadd (pc := 43) F dX3_endTicks_43 ?_
              refine g_istore_n (pc := 44) F dX3_endTicks_44 (by decide) rfl ?_
              refine g_iinc (pc := 45) F dX3_endTicks_45 rfl rfl (by decide) rfl ?_
              refine g_goto (pc := 48) (tgt := 33) F dX3_endTicks_48 (by decide) ?_
              exact G.sub [some (.ref (ad g h)), some (.int k), some (.int (endsN S (i + 1)).1), some (.int (x + Int32.ofInt 1))] ⟨rfl, rfl, rfl, rfl, trivial⟩ (ih (i + 1) _ _ (by omega) (by rw [hx]; exact nI_1 i) q1 (hf1.trans q2))
        refine g_iconst (pc := 29) (v := 0) F dX3_endTicks_29 (by decide) ?_
        refine g_istore_n (pc := 30) F dX3_endTicks_30 (by decide) rfl ?_
        refine g_iconst (pc := 31) (v := 0) F dX3_endTicks_31 (by decide) ?_
        refine g_istore_n (pc := 32) F dX3_endTicks_32 (by decide) rfl ?_
        exact L kn 0 _ _ (by omega) nI_0.symm hr (frH.refl _ _)
      · rw [hr.2.2.1] at c23
        refine g_ldc (pc := 26) F wk_X3_50 dX3_endTicks_26 ?_
        refine g_iret (pc := 28) F r dX3_endTicks_28 ?_
        have eO : oTick S k = (-1000003, S) := by
          unfold oTick
          rw [if_pos ⟨Int32.not_lt.mp c2, c9⟩, if_neg c23]
        rw [eO]
        exact ⟨rfl, hr, frH.refl _ _⟩
    · refine g_ldc (pc := 12) F wk_X3_49 dX3_endTicks_12 ?_
      refine g_iret (pc := 14) F r dX3_endTicks_14 ?_
      have eO : oTick S k = (-1000001, S) := by
        unfold oTick
        exact if_neg (fun e => c9 e.2)
      rw [eO]
      exact ⟨rfl, hr, frH.refl _ _⟩
end
section
theorem NP_burst {la b c d p : Nat} (hl : ¬ la = 2) (hp : p < NP la b c d) : p < 4 := by
  unfold NP at hp
  rw [if_neg hl] at hp
  by_cases hb : 0 < b <;> by_cases hc : 0 < c <;> by_cases hd : 0 < d <;> simp [hb, hc, hd] at hp <;> omega
/-- beginning a gap reads the law and its numbers alone -/
theorem bw_congr {u v : Nat → Int32} {la a b c d x q : Nat} (hL : LI u la a b c d) (hx : x < 10000) (hq : q < 2147483648) (e : ∀ j, j < 15 → j ≠ 5 → u j = v j) : (∀ j, j < 15 → bw u (nI x) (nI q) j = bw v (nI x) (nI q) j) ∧ bx u (nI x) = bx v (nI x) := by
  obtain ⟨p, hp, hpe⟩ := bplace_nI hL hx hq
  have hl2 := LI_law2 hL
  have hP := (NP_bound (la := la) (b := b) (c := c) (d := d) (hL.2.2.2.2.2.2.2.2.1)).2
  have hpl : places v = places u := by
    unfold places
    rw [e 0 (by decide) (by decide), e 1 (by decide) (by decide), e 2 (by decide) (by decide), e 3 (by decide) (by decide), e 4 (by decide) (by decide)]
  have hbp : bplace v (nI x) (nI q) = nI p := by
    rw [← hpe]
    unfold bplace
    rw [hpl, e 0 (by decide) (by decide)]
  have hg : gapAt u (nI p) = gapAt v (nI p) := by
    unfold gapAt
    rw [← e 0 (by decide) (by decide), ← e 1 (by decide) (by decide), ← e 2 (by decide) (by decide), ← e 3 (by decide) (by decide)]
    by_cases hl : u 0 = 2
    · rw [if_pos hl, if_pos hl]
    · rw [if_neg hl, if_neg hl]
      have h4 := NP_burst (fun z => hl (hl2.mpr z)) hp
      rw [nI_clamp (by omega)]
      exact e _ (by omega) (by omega)
  refine ⟨fun j hj => ?_, ?_⟩
  · unfold bw
    rw [hpe, hbp, hg]
    by_cases h7 : j = 7
    · subst h7; rw [upd_self, upd_self]
    · rw [upd_ne _ _ h7, upd_ne _ _ h7]
      by_cases h6 : j = 6
      · subst h6; rw [upd_self, upd_self]
      · rw [upd_ne _ _ h6, upd_ne _ _ h6]
        by_cases h5 : j = 5
        · subst h5; rw [upd_self, upd_self]
        · rw [upd_ne _ _ h5, upd_ne _ _ h5]
          exact e j hj h5
  · unfold bx
    rw [e 0 (by decide) (by decide)]
theorem addC_lo (S : SV) (la a b c d : Int32) {k : Nat} (hk : k < 3) : addC S la a b c d k = if k = 0 then S 0 + 1 else S k := by
  unfold addC beg
  rw [upd_ne _ _ (by omega), setC_lo _ _ _ (by omega), upd_get]
  by_cases h0 : k = 0
  · rw [if_pos h0, if_pos h0]
  · rw [if_neg h0, if_neg h0, setC_lo _ _ _ (by omega)]
/-- the clock that came, and the others -/
theorem addC_cw {S : SV} {la a b c d : Int32} {x l' a' b' c' d' : Nat} (hL : LI (w0 la a b c d (-1)) l' a' b' c' d') (hx3 : S 3 = nI x) (hx : x < 10000) : (∀ j, j < 15 → cw (addC S la a b c d) (cn S) j = bw (w0 la a b c d (-1)) (S 3) (w0 la a b c d (-1) 5 + 1) j) ∧ addC S la a b c d 3 = bx (w0 la a b c d (-1)) (S 3) ∧ (∀ i, i ≠ cn S → ∀ j, j < 15 → cw (addC S la a b c d) i j = cw S i j) ∧ (cn S < 6 → ∀ k j, gw (addC S la a b c d) k j = gw S k j) := by
  have e51 : w0 la a b c d (-1) 5 + 1 = nI 0 := by
    show (-1 : Int32) + 1 = nI 0
    decide
  have hcw : ∀ j, j < 15 → j ≠ 5 → w0 la a b c d (-1) j = cw (upd (setC S (cn S) (w0 la a b c d 0)) 0 (S 0 + 1)) (cn S) j := by
    intro j hj h5
    rw [cw_upd_lo _ _ _ (by decide), cw_setC _ _ _ hj]
    unfold w0
    simp [h5]
  obtain ⟨k1, k2⟩ := bw_congr (q := 0) hL hx (by decide) hcw
  rw [e51, hx3]
  have h3' : upd (setC S (cn S) (w0 la a b c d 0)) 0 (S 0 + 1) 3 = nI x := by rw [upd_ne _ _ (by decide), setC_lo _ _ _ (by decide), hx3]
  refine ⟨fun j hj => ?_, ?_, fun i hi j hj => ?_, fun hn k j => ?_⟩
  · unfold addC beg
    rw [cw_upd_lo _ _ _ (by decide), cw_setC _ _ _ hj, h3', k1 j hj]
    rfl
  · unfold addC beg
    rw [upd_self, h3', k2]
  · unfold addC beg
    rw [cw_upd_lo _ _ _ (by decide), cw_setC_ne _ _ hj hi, cw_upd_lo _ _ _ (by decide), cw_setC_ne _ _ hj hi]
  · unfold addC beg
    rw [gw_upd_lo _ _ _ (by decide), gw_setC _ _ hn, gw_upd_lo _ _ _ (by decide), gw_setC _ _ hn]
/-- a clock comes: its rows are set and begun, and the hall counts one more -/
theorem HR_addC {M M2 M3 : Mem} {h : Nat} {S : SV} {t : Nat} {la a b c d : Int32} {x l' a' b' c' d' : Nat} (hr : HR M h S) (hi : Inv S t) (hn : cn S < 6) (hx3 : S 3 = nI x) (hx : x < 10000) (hL : LI (w0 la a b c d (-1)) l' a' b' c' d')
    (e1 : M2 = csetM M (h + 3 + 4 * cn S) la a b c d) (q1 : M3 h = upd (M2 h) 5 (bx (w0 la a b c d (-1)) (M2 h 5))) (q2 : CR M3 (h + 3 + 4 * cn S) (bw (w0 la a b c d (-1)) (M2 h 5) (w0 la a b c d (-1) 5 + 1))) (q3 : ∀ y, y ≠ h → y ≠ h + 3 + 4 * cn S → M3 y = M2 y) :
    HR (upd2 M3 h 1 (M3 h 1 + 1)) h (addC S la a b c d) ∧ frH M (upd2 M3 h 1 (M3 h 1 + 1)) h := by
  have hm := hi.gn_le
  have hn6 := hi.cn_le
  have o1 : ∀ y, (y < h + 3 + 4 * cn S ∨ h + 7 + 4 * cn S ≤ y) → M2 y = M y := by
    intro y hy
    rw [e1]
    unfold csetM
    rw [updr_ne _ _ (by omega), updr_ne _ _ (by omega), updr_ne _ _ (by omega), updr_ne _ _ (by omega)]
  have hh : M2 h = M h := o1 h (by omega)
  rw [hh] at q1 q2
  obtain ⟨k1, k2, k3, k4⟩ := addC_cw (S := S) hL hx3 hx
  have ec : cn (addC S la a b c d) = cn S + 1 := by
    refine cn_of ?_ (by omega)
    rw [addC_lo _ _ _ _ _ _ (by decide), if_pos rfl, hn6.2, nI_1]
  have eg : gn (addC S la a b c d) = gn S := by unfold gn; rw [addC_lo _ _ _ _ _ _ (by decide), if_neg (by decide)]
  have r5 : M h 5 = S 3 := hr.2.2.2.1
  refine ⟨⟨?_, ?_, ?_, ?_, ?_, ?_⟩, fun y hy => ?_⟩
  · rw [upd2_self, q1, upd_ne _ _ (by decide), hr.1, addC_lo _ _ _ _ _ _ (by decide), if_pos rfl]
  · rw [upd2_j _ _ _ (by decide), q1, upd_ne _ _ (by decide), hr.2.1, addC_lo _ _ _ _ _ _ (by decide), if_neg (by decide)]
  · rw [upd2_j _ _ _ (by decide), q1, upd_ne _ _ (by decide), hr.2.2.1, addC_lo _ _ _ _ _ _ (by decide), if_neg (by decide)]
  · rw [upd2_j _ _ _ (by decide), q1, upd_self, k2, r5]
  · rw [ec]
    intro i hi'
    show CRr _ _ _ _ _
    rw [upd2_k _ _ _ (by omega), upd2_k _ _ _ (by omega), upd2_k _ _ _ (by omega), upd2_k _ _ _ (by omega)]
    by_cases hin : i = cn S
    · subst hin
      rw [r5] at q2
      exact CRr_congr q2 k1
    · rw [q3 _ (by omega) (by omega), q3 _ (by omega) (by omega), q3 _ (by omega) (by omega), q3 _ (by omega) (by omega), o1 _ (by omega), o1 _ (by omega), o1 _ (by omega), o1 _ (by omega)]
      exact CRr_congr (hr.2.2.2.2.1 i (by omega)) (k3 i hin)
  · rw [eg]
    intro i hi' j hj
    rw [upd2_k _ _ _ (by omega), q3 _ (by omega) (by omega), o1 _ (by omega), k4 hn]
    exact hr.2.2.2.2.2 i hi' j hj
  · rw [upd2_k _ _ _ (by omega), q3 _ (by omega) (by omega), o1 _ (by omega)]
set_option maxHeartbeats 4000000 in
set_option maxRecDepth 100000 in
theorem c_X3_addClock (l : Launch) (g : Gm) (M : Mem) (h : Nat) (hk : kd h = 3) (S : SV) (t : Nat) (hr : HR M h S) (hi : Inv S t) (la a b c d : Int32) : Cn l yX3_addClock cX3_addClock 7 (some .int) 3 68 g [.ref (ad g h), .int la, .int a, .int b, .int c, .int d] M (fun v M2 => v = some (.int (oClock S la a b c d).1) ∧ HR M2 h (oClock S la a b c d).2 ∧ frH M M2 h) := by
  refine Cn.intro (lv0 := [some (.ref (ad g h)), some (.int la), some (.int a), some (.int b), some (.int c), some (.int d), none]) 1 (by decide +kernel) (Nat.le_of_ble_eq_true rfl) rfl (fun X F r => ?_)
  obtain ⟨hk1, hk2, hkC, hkG⟩ := kd_hall hk
  have hn := hi.cn_le
  have hm := hi.gn_le
  refine g_iload_n (pc := 0) F dX3_addClock_0 rfl ?_
  refine g_iload_n (pc := 1) F dX3_addClock_1 rfl ?_
  refine g_iload_n (pc := 2) F dX3_addClock_2 rfl ?_
  refine g_iload (pc := 3) F dX3_addClock_3 rfl ?_
  refine g_iload (pc := 5) F dX3_addClock_5 rfl ?_
  refine g_callSN (pc := 7) (rf2 := 2) (rl2 := 41) F cs_X3_45 (by rfl) (by rfl) (Nat.le_of_ble_eq_true (by rfl)) (by decide) dX3_addClock_7 (c_X7_isClock _ g _ la a b c d) (fun v M2 hz => ?_)
  obtain ⟨rfl, h2⟩ := hz
  rw [h2]
  refine g_if_ne (pc := 10) (tgt := 16) F dX3_addClock_10 (by decide) (fun c10 => ?_) (fun c10 => ?_)
  · have hcP := cb_1 c10
    refine g_aload_n (pc := 16) F dX3_addClock_16 rfl ?_
    refine g_geti (pc := 17) F fl_X3_29 (by assumption) rfl dX3_addClock_17 ?_
    refine g_aload_n (pc := 20) F dX3_addClock_20 rfl ?_
    refine g_getr (pc := 21) F fl_X3_11 (by assumption) rfl dX3_addClock_21 ?_
    refine g_alenK (pc := 24) F (by assumption) (v := 6) (by decide) dX3_addClock_24 ?_
    refine g_icmp_lt (pc := 25) (tgt := 31) F dX3_addClock_25 (by decide) (fun c25 => ?_) (fun c25 => ?_)
    · rw [hr.1, hn.2] at c25
      have hn6 : cn S < 6 := (nI_ltI (b := 6) (by omega) (by decide)).mp c25
      have hk3 := hkC (cn S) hn6
      obtain ⟨l', a', b', c', d', hLI⟩ := clockP_LI (p := -1) hcP
      obtain ⟨xx, hxx, hx3⟩ := hi.2.2.2.2.1
      have eO : oClock S la a b c d = (S 0, addC S la a b c d) := by
        unfold oClock
        rw [if_pos hcP, if_neg (fun e => by rw [hn.2, show (6 : Int32) = nI 6 by decide, nI_inj (by omega) (by decide)] at e; omega)]
      rw [eO] at r
      refine g_aload_n (pc := 31) F dX3_addClock_31 rfl ?_
      refine g_getr (pc := 32) F fl_X3_11 (by assumption) rfl dX3_addClock_32 ?_
      refine g_aload_n (pc := 35) F dX3_addClock_35 rfl ?_
      refine g_geti (pc := 36) F fl_X3_29 (by assumption) rfl dX3_addClock_36 ?_
      refine g_aaldK (pc := 39) (q := cn S) (r := h + 3 + 4 * cn S) F hk1 (hr.1.trans hn.2) hn6 (by omega) dX3_addClock_39 ?_
      refine g_astore (pc := 40) F dX3_addClock_40 (by decide) rfl ?_
      refine g_aload (pc := 42) F dX3_addClock_42 rfl ?_
      refine g_iload_n (pc := 44) F dX3_addClock_44 rfl ?_
      refine g_iload_n (pc := 45) F dX3_addClock_45 rfl ?_
      refine g_iload_n (pc := 46) F dX3_addClock_46 rfl ?_
      refine g_iload (pc := 47) F dX3_addClock_47 rfl ?_
      refine g_iload (pc := 49) F dX3_addClock_49 rfl ?_
      refine g_callV (pc := 51) (rf2 := 2) (rl2 := 43) F cs_X3_51 (by assumption) rfl (by decide) (by rfl) (by rfl) (Nat.le_of_ble_eq_true (by rfl)) (by decide) dX3_addClock_51 (c_X0_set _ g _ (h + 3 + 4 * cn S) hk3 la a b c d) (fun v M2 hz => ?_)
      obtain ⟨rfl, e1⟩ := hz
      refine g_aload_n (pc := 54) F dX3_addClock_54 rfl ?_
      refine g_aload (pc := 55) F dX3_addClock_55 rfl ?_
      have hh5 : M2 h 5 = nI xx := by
        rw [e1]
        unfold csetM
        rw [updr_ne _ _ (by omega), updr_ne _ _ (by omega), updr_ne _ _ (by omega), updr_ne _ _ (by omega), hr.2.2.2.1, hx3]
      refine g_callV (pc := 57) (rf2 := 1) (rl2 := 21) F cs_X3_55 (by assumption) rfl (by decide) (by rfl) (by rfl) (Nat.le_of_ble_eq_true (by rfl)) (by decide) dX3_addClock_57 (c_X3_beginGap _ g _ h (h + 3 + 4 * cn S) hk hk3 (by omega) _ (by rw [e1]; exact CR_set M (h + 3 + 4 * cn S) la a b c d) hLI hxx hh5 (show w0 la a b c d (-1) 5 + 1 = nI 0 by show (-1 : Int32) + 1 = nI 0; decide) (Nat.zero_le _)) (fun v M3 hz => ?_)
      obtain ⟨rfl, q1, q2, q3⟩ := hz
      refine g_aload_n (pc := 60) F dX3_addClock_60 rfl ?_
      refine g_dup (pc := 61) F dX3_addClock_61 rfl ?_
      refine g_geti (pc := 62) F fl_X3_29 (by assumption) rfl dX3_addClock_62 ?_
      refine g_iconst (pc := 65) (v := 1) F dX3_addClock_65 (by decide) ?_
      refine g_iadd (pc := 66) F dX3_addClock_66 ?_
      refine g_puti (pc := 67) F fl_X3_29 rfl rfl (by assumption) rfl dX3_addClock_67 ?_
      refine g_aload_n (pc := 70) F dX3_addClock_70 rfl ?_
      refine g_geti (pc := 71) F fl_X3_29 (by assumption) rfl dX3_addClock_71 ?_
      refine g_iconst (pc := 74) (v := 1) F dX3_addClock_74 (by decide) ?_
      refine g_isub (pc := 75) F dX3_addClock_75 ?_
      refine g_iret (pc := 76) F r dX3_addClock_76 ?_
      obtain ⟨z1, z2⟩ := HR_addC hr hi hn6 hx3 hxx hLI e1 q1 q2 q3
      refine ⟨?_, z1, z2⟩
      rw [upd2_self]
      have hM1 : M3 h 1 = S 0 := by
        rw [q1, upd_ne _ _ (by decide), e1]
        unfold csetM
        rw [updr_ne _ _ (by omega), updr_ne _ _ (by omega), updr_ne _ _ (by omega), updr_ne _ _ (by omega), hr.1]
      rw [hM1, Int32.add_sub_cancel]
    · rw [hr.1, hn.2] at c25
      have eO : oClock S la a b c d = (-1000003, S) := by
        unfold oClock
        rw [if_pos hcP, if_pos (by
          have h6 : ¬ cn S < 6 := fun e => c25 ((nI_ltI (b := 6) (by omega) (by decide)).mpr e)
          rw [hn.2, show (6 : Int32) = nI 6 by decide, nI_inj (by omega) (by decide)]
          omega)]
      refine g_ldc (pc := 28) F wk_X3_50 dX3_addClock_28 ?_
      refine g_iret (pc := 30) F r dX3_addClock_30 ?_
      rw [eO]
      exact ⟨rfl, hr, frH.refl _ _⟩
  · have hcN := cb_0 c10
    refine g_ldc (pc := 13) F wk_X3_49 dX3_addClock_13 ?_
    refine g_iret (pc := 15) F r dX3_addClock_15 ?_
    have e : oClock S la a b c d = (-1000001, S) := if_neg hcN
    rw [e]
    exact ⟨rfl, hr, frH.refl _ _⟩

set_option maxHeartbeats 4000000 in
set_option maxRecDepth 100000 in
theorem c_X3_addGroup (l : Launch) (g : Gm) (M : Mem) (h : Nat) (hk : kd h = 3) (S : SV) (t : Nat) (hr : HR M h S) (hi : Inv S t) (la : Int32) : Cn l yX3_addGroup cX3_addGroup 2 (some .int) 1 21 g [.ref (ad g h), .int la] M (fun v M2 => v = some (.int (oGroup S la).1) ∧ HR M2 h (oGroup S la).2 ∧ frH M M2 h) := by
  refine Cn.intro (lv0 := [some (.ref (ad g h)), some (.int la)]) 0 (by decide +kernel) (Nat.le_of_ble_eq_true rfl) rfl (fun X F r => ?_)
  obtain ⟨hk1, hk2, hkC, hkG⟩ := kd_hall hk
  have hn := hi.cn_le
  have hm := hi.gn_le
  refine g_iload_n (pc := 0) F dX3_addGroup_0 rfl ?_
  refine g_callSN (pc := 1) (rf2 := 0) (rl2 := 0) F cs_X3_116 (by rfl) (by rfl) (Nat.le_of_ble_eq_true (by rfl)) (by decide) dX3_addGroup_1 (c_X7_isLaw _ g _ la) (fun v M2 hz => ?_)
  obtain ⟨rfl, h2⟩ := hz
  rw [h2]
  refine g_if_ne (pc := 4) (tgt := 10) F dX3_addGroup_4 (by decide) (fun c4 => ?_) (fun c4 => ?_)
  · have hcP := cb_1 c4
    refine g_aload_n (pc := 10) F dX3_addGroup_10 rfl ?_
    refine g_geti (pc := 11) F fl_X3_36 (by assumption) rfl dX3_addGroup_11 ?_
    refine g_aload_n (pc := 14) F dX3_addGroup_14 rfl ?_
    refine g_getr (pc := 15) F fl_X3_19 (by assumption) rfl dX3_addGroup_15 ?_
    refine g_alenG (pc := 18) F (by assumption) (v := 4) (by decide) dX3_addGroup_18 ?_
    refine g_icmp_lt (pc := 19) (tgt := 25) F dX3_addGroup_19 (by decide) (fun c19 => ?_) (fun c19 => ?_)
    · rw [hr.2.1, hm.2] at c19
      have hm4 : gn S < 4 := (nI_ltI (b := 4) (by omega) (by decide)).mp c19
      have hk3 := hkG (gn S) hm4
      have eO : oGroup S la = (S 1, upd (setGr S (gn S) (g0 la)) 1 (S 1 + 1)) := by
        unfold oGroup
        rw [if_pos hcP, if_neg (fun e => by rw [hm.2, show (4 : Int32) = nI 4 by decide, nI_inj (by omega) (by decide)] at e; omega)]
      rw [eO] at r
      refine g_aload_n (pc := 25) F dX3_addGroup_25 rfl ?_
      refine g_getr (pc := 26) F fl_X3_19 (by assumption) rfl dX3_addGroup_26 ?_
      refine g_aload_n (pc := 29) F dX3_addGroup_29 rfl ?_
      refine g_geti (pc := 30) F fl_X3_36 (by assumption) rfl dX3_addGroup_30 ?_
      refine g_aaldG (pc := 33) (q := gn S) (r := h + 27 + gn S) F hk2 (hr.2.1.trans hm.2) hm4 (by omega) dX3_addGroup_33 ?_
      refine g_iload_n (pc := 34) F dX3_addGroup_34 rfl ?_
      refine g_callV (pc := 35) (rf2 := 0) (rl2 := 0) F cs_X3_120 (by assumption) rfl (by decide) (by rfl) (by rfl) (Nat.le_of_ble_eq_true (by rfl)) (by decide) dX3_addGroup_35 (c_X2_set _ g _ (h + 27 + gn S) hk3 la) (fun v M2 hz => ?_)
      obtain ⟨rfl, rfl⟩ := hz
      refine g_aload_n (pc := 38) F dX3_addGroup_38 rfl ?_
      refine g_dup (pc := 39) F dX3_addGroup_39 rfl ?_
      refine g_geti (pc := 40) F fl_X3_36 (by assumption) rfl dX3_addGroup_40 ?_
      refine g_iconst (pc := 43) (v := 1) F dX3_addGroup_43 (by decide) ?_
      refine g_iadd (pc := 44) F dX3_addGroup_44 ?_
      refine g_puti (pc := 45) F fl_X3_36 rfl rfl (by assumption) rfl dX3_addGroup_45 ?_
      refine g_aload_n (pc := 48) F dX3_addGroup_48 rfl ?_
      refine g_geti (pc := 49) F fl_X3_36 (by assumption) rfl dX3_addGroup_49 ?_
      refine g_iconst (pc := 52) (v := 1) F dX3_addGroup_52 (by decide) ?_
      refine g_isub (pc := 53) F dX3_addGroup_53 ?_
      refine g_iret (pc := 54) F r dX3_addGroup_54 ?_
      obtain ⟨h0, h1, h2, h3, h4, h5⟩ := hr
      have hMh : ∀ r, updr M (h + 27 + gn S) r h = M h := fun r => updr_ne _ _ (by omega)
      have lo : ∀ k, k < 4 → upd (setGr S (gn S) (g0 la)) 1 (S 1 + 1) k = if k = 1 then S 1 + 1 else S k := by
        intro k hk
        rw [upd_get]
        by_cases h1 : k = 1
        · rw [if_pos h1, if_pos h1]
        · rw [if_neg h1, if_neg h1, setGr_lo _ _ _ hk]
      have ec : cn (upd (setGr S (gn S) (g0 la)) 1 (S 1 + 1)) = cn S := by unfold cn; rw [lo 0 (by decide), if_neg (by decide)]
      have eg : gn (upd (setGr S (gn S) (g0 la)) 1 (S 1 + 1)) = gn S + 1 := by
        refine gn_of ?_ (by omega)
        rw [lo 1 (by decide), if_pos rfl, hm.2, nI_1]
      show _ ∧ HR _ h (upd (setGr S (gn S) (g0 la)) 1 (S 1 + 1)) ∧ _
      refine ⟨?_, ⟨?_, ?_, ?_, ?_, ?_, ?_⟩, fun y hy => ?_⟩
      · rw [upd2_self, hMh, h1, Int32.add_sub_cancel]
      · rw [upd2_j _ _ _ (by decide), hMh, h0, lo 0 (by decide), if_neg (by decide)]
      · rw [upd2_self, hMh, h1, lo 1 (by decide), if_pos rfl]
      · rw [upd2_j _ _ _ (by decide), hMh, h2, lo 2 (by decide), if_neg (by decide)]
      · rw [upd2_j _ _ _ (by decide), hMh, h3, lo 3 (by decide), if_neg (by decide)]
      · rw [ec]
        intro k hk
        show CRr _ _ _ _ _
        rw [upd2_k _ _ _ (by omega), upd2_k _ _ _ (by omega), upd2_k _ _ _ (by omega), upd2_k _ _ _ (by omega), updr_ne _ _ (by omega), updr_ne _ _ (by omega), updr_ne _ _ (by omega), updr_ne _ _ (by omega), cw_upd_lo _ _ _ (by decide)]
        exact CRr_congr (h4 k hk) (fun j hj => cw_setGr _ _ _ (by omega) hj)
      · rw [eg]
        intro k hk j hj
        rw [upd2_k _ _ _ (by omega), gw_upd_lo _ _ _ (by decide)]
        by_cases hki : k = gn S
        · subst hki
          rw [updr_self, gw_setGr _ _ _ hj]
          match j, hj with
          | 0, _ | 1, _ | 2, _ | 3, _ => rfl
        · rw [updr_ne _ _ (by omega), gw_setGr_ne _ _ hj hki]
          exact h5 k (by omega) j hj
      · rw [upd2_k _ _ _ (by omega), updr_ne _ _ (by omega)]
    · rw [hr.2.1, hm.2] at c19
      have eO : oGroup S la = (-1000003, S) := by
        unfold oGroup
        rw [if_pos hcP, if_pos (by
          have h6 : ¬ gn S < 4 := fun e => c19 ((nI_ltI (b := 4) (by omega) (by decide)).mpr e)
          rw [hm.2, show (4 : Int32) = nI 4 by decide, nI_inj (by omega) (by decide)]
          omega)]
      refine g_ldc (pc := 22) F wk_X3_50 dX3_addGroup_22 ?_
      refine g_iret (pc := 24) F r dX3_addGroup_24 ?_
      rw [eO]
      exact ⟨rfl, hr, frH.refl _ _⟩
  · have hcN := cb_0 c4
    refine g_ldc (pc := 7) F wk_X3_49 dX3_addGroup_7 ?_
    refine g_iret (pc := 9) F r dX3_addGroup_9 ?_
    have e : oGroup S la = (-1000001, S) := if_neg hcN
    rw [e]
    exact ⟨rfl, hr, frH.refl _ _⟩
end
section
theorem b2i_0 {P : Prop} [Decidable P] (h : b2i P = 0) : ¬ P := fun e => by unfold b2i at h; rw [if_pos e] at h; exact absurd h (by decide)
theorem b2i_1 {P : Prop} [Decidable P] (h : ¬ b2i P = 0) : P := Classical.byContradiction fun e => h (by unfold b2i; rw [if_neg e])
set_option maxHeartbeats 4000000 in
set_option maxRecDepth 100000 in
theorem c_X3_joinGroup (l : Launch) (g : Gm) (M : Mem) (h : Nat) (hk : kd h = 3) (S : SV) (t : Nat) (hr : HR M h S) (hi : Inv S t) (gx x : Int32) : Cn l yX3_joinGroup cX3_joinGroup 5 (some .int) 2 40 g [.ref (ad g h), .int gx, .int x] M (fun v M2 => v = some (.int (oJoin S gx x).1) ∧ HR M2 h (oJoin S gx x).2 ∧ frH M M2 h) := by
  refine Cn.intro (lv0 := [some (.ref (ad g h)), some (.int gx), some (.int x), none, none]) 2 (by decide +kernel) (Nat.le_of_ble_eq_true rfl) rfl (fun X F r => ?_)
  obtain ⟨hk1, hk2, hkC, hkG⟩ := kd_hall hk
  have hn := hi.cn_le
  have hm := hi.gn_le
  refine g_aload_n (pc := 0) F dX3_joinGroup_0 rfl ?_
  refine g_iload_n (pc := 1) F dX3_joinGroup_1 rfl ?_
  refine g_callV (pc := 2) (rf2 := 0) (rl2 := 0) F cs_X3_122 (by assumption) rfl (by decide) (by rfl) (by rfl) (Nat.le_of_ble_eq_true (by rfl)) (by decide) dX3_joinGroup_2 (c_X3_groupAt _ g _ h hk (gn S) hm.1 (hr.2.1.trans hm.2) gx) (fun v M2 hz => ?_)
  obtain ⟨h2, hz⟩ := hz
  rw [h2]
  rcases hz with ⟨gi, hg6, hgx, rfl⟩ | ⟨hnoG, rfl⟩
  · refine g_astore_n (pc := 5) F dX3_joinGroup_5 (by decide) rfl ?_
    refine g_aload_n (pc := 6) F dX3_joinGroup_6 rfl ?_
    refine g_iload_n (pc := 7) F dX3_joinGroup_7 rfl ?_
    refine g_callV (pc := 8) (rf2 := 0) (rl2 := 0) F cs_X3_58 (by assumption) rfl (by decide) (by rfl) (by rfl) (Nat.le_of_ble_eq_true (by rfl)) (by decide) dX3_joinGroup_8 (c_X3_clockAt _ g _ h hk (cn S) hn.1 (hr.1.trans hn.2) x) (fun v M2 hz => ?_)
    obtain ⟨h2, hz⟩ := hz
    rw [h2]
    rcases hz with ⟨i, hi6, hx, rfl⟩ | ⟨hno, rfl⟩
    · refine g_astore (pc := 11) F dX3_joinGroup_11 (by decide) rfl ?_
      refine g_aload_n (pc := 13) F dX3_joinGroup_13 rfl ?_
      refine g_ifnull (pc := 14) F dX3_joinGroup_14 ?_
      refine g_aload (pc := 17) F dX3_joinGroup_17 rfl ?_
      refine g_ifnonnull (pc := 19) (tgt := 25) F dX3_joinGroup_19 (by decide) ?_
      subst hgx
      subst hx
      have hkq := hkG gi (by omega)
      have hkc := hkC i (by omega)
      have hG := hr.2.2.2.2.2 gi hg6
      have hC := hr.2.2.2.2.1 i hi6
      have hin : inG S (nI gi) ∧ inC S (nI i) := ⟨inG_of hi hg6, inC_of hi hi6⟩
      have x1 : ixN (nI gi) = gi := ixN_nI (by omega)
      have x2 : ixN (nI i) = i := ixN_nI (by omega)
      refine g_aload (pc := 25) F dX3_joinGroup_25 rfl ?_
      refine g_geti (pc := 27) F fl_X3_68 (by assumption) rfl dX3_joinGroup_27 ?_
      refine g_aload_n (pc := 30) F dX3_joinGroup_30 rfl ?_
      refine g_geti (pc := 31) F fl_X3_126 (by assumption) rfl dX3_joinGroup_31 ?_
      refine g_icmp_ne (pc := 34) (tgt := 45) F dX3_joinGroup_34 (by decide) (fun c34 => ?_) (fun c34 => ?_)
      · refine g_ldc (pc := 45) F wk_X3_130 dX3_joinGroup_45 ?_
        refine g_iret (pc := 47) F r dX3_joinGroup_47 ?_
        have e : oJoin S (nI gi) (nI i) = (-1000002, S) := by
          unfold oJoin
          rw [x1, x2, if_pos hin]
          exact if_pos (Or.inl (fun q => c34 (by rw [hC.1, hG 0 (by decide)]; exact q)))
        rw [e]
        exact ⟨rfl, hr, frH.refl _ _⟩
      · refine g_aload_n (pc := 37) F dX3_joinGroup_37 rfl ?_
        refine g_iload_n (pc := 38) F dX3_joinGroup_38 rfl ?_
        refine g_callV (pc := 39) (rf2 := 0) (rl2 := 0) F cs_X3_127 (by assumption) rfl (by decide) (by rfl) (by rfl) (Nat.le_of_ble_eq_true (by rfl)) (by decide) dX3_joinGroup_39 (c_X2_has _ g _ (h + 27 + gi) hkq _) (fun v M2 hz => ?_)
        obtain ⟨rfl, h3⟩ := hz
        rw [h3]
        refine g_if_eq (pc := 42) (tgt := 48) F dX3_joinGroup_42 (by decide) (fun c42 => ?_) (fun c42 => ?_)
        · have hIn : ¬ isIn (gw S gi 1) i := by
            have := b2i_0 c42
            rw [hG 1 (by decide)] at this
            exact this
          refine g_aload_n (pc := 48) F dX3_joinGroup_48 rfl ?_
          refine g_callV (pc := 49) (rf2 := 1) (rl2 := 20) F cs_X3_131 (by assumption) rfl (by decide) (by rfl) (by rfl) (Nat.le_of_ble_eq_true (by rfl)) (by decide) dX3_joinGroup_49 (c_X2_size _ g _ (h + 27 + gi) hkq) (fun v M2 hz => ?_)
          obtain ⟨rfl, h3⟩ := hz
          rw [h3]
          refine g_iconst (pc := 52) (v := 4) F dX3_joinGroup_52 (by decide) ?_
          refine g_icmp_lt (pc := 53) (tgt := 59) F dX3_joinGroup_53 (by decide) (fun c53 => ?_) (fun c53 => ?_)
          · rw [hG 1 (by decide)] at c53
            refine g_aload_n (pc := 59) F dX3_joinGroup_59 rfl ?_
            refine g_dup (pc := 60) F dX3_joinGroup_60 rfl ?_
            refine g_geti (pc := 61) F fl_X3_134 (by assumption) rfl dX3_joinGroup_61 ?_
            refine g_iconst (pc := 64) (v := 1) F dX3_joinGroup_64 (by decide) ?_
            refine g_iload_n (pc := 65) F dX3_joinGroup_65 rfl ?_
            refine g_ishl (pc := 66) F dX3_joinGroup_66 ?_
            refine g_ior (pc := 67) F dX3_joinGroup_67 ?_
            refine g_puti (pc := 68) F fl_X3_134 rfl rfl (by assumption) rfl dX3_joinGroup_68 ?_
            refine g_aload_n (pc := 71) F dX3_joinGroup_71 rfl ?_
            refine g_callV (pc := 72) (rf2 := 1) (rl2 := 20) F cs_X3_131 (by assumption) rfl (by decide) (by rfl) (by rfl) (Nat.le_of_ble_eq_true (by rfl)) (by decide) dX3_joinGroup_72 (c_X2_size _ g _ (h + 27 + gi) hkq) (fun v M2 hz => ?_)
            obtain ⟨rfl, h3⟩ := hz
            rw [h3]
            refine g_iret (pc := 75) F r dX3_joinGroup_75 ?_
            have e : oJoin S (nI gi) (nI i) = (jbc (gw S gi 1 ||| (1 <<< (nI i &&& 31))), mem1 S gi (gw S gi 1 ||| (1 <<< (nI i &&& 31)))) := by
              unfold oJoin
              rw [x1, x2, if_pos hin]
              have hl : cw S i 0 = gw S gi 0 := by rw [← hC.1, ← hG 0 (by decide)]; exact c34
              rw [if_neg (fun q => q.elim (fun z => z hl) hIn), if_pos c53]
            rw [e]
            rw [upd2_self, hG 1 (by decide), upd2_updr]
            refine ⟨rfl, HR_group hr hn.1 hm.1 (by omega) (fun j hj => ?_), fun y hy => updr_ne _ _ (by omega)⟩
            rw [upd_get, upd_get, hG j hj]
          · rw [hG 1 (by decide)] at c53
            refine g_ldc (pc := 56) F wk_X3_50 dX3_joinGroup_56 ?_
            refine g_iret (pc := 58) F r dX3_joinGroup_58 ?_
            have e : oJoin S (nI gi) (nI i) = (-1000003, S) := by
              unfold oJoin
              rw [x1, x2, if_pos hin]
              have hl : cw S i 0 = gw S gi 0 := by rw [← hC.1, ← hG 0 (by decide)]; exact c34
              rw [if_neg (fun q => q.elim (fun z => z hl) hIn), if_neg c53]
            rw [e]
            exact ⟨rfl, hr, frH.refl _ _⟩
        · have hIn : isIn (gw S gi 1) i := by
            have := b2i_1 c42
            rw [hG 1 (by decide)] at this
            exact this
          refine g_ldc (pc := 45) F wk_X3_130 dX3_joinGroup_45 ?_
          refine g_iret (pc := 47) F r dX3_joinGroup_47 ?_
          have e : oJoin S (nI gi) (nI i) = (-1000002, S) := by
            unfold oJoin
            rw [x1, x2, if_pos hin]
            exact if_pos (Or.inr hIn)
          rw [e]
          exact ⟨rfl, hr, frH.refl _ _⟩
    · refine g_astoreN (pc := 11) F dX3_joinGroup_11 (by decide) rfl ?_
      refine g_aload_n (pc := 13) F dX3_joinGroup_13 rfl ?_
      refine g_ifnull (pc := 14) F dX3_joinGroup_14 ?_
      refine g_aloadN (pc := 17) F dX3_joinGroup_17 rfl ?_
      refine g_ifnonnullN (pc := 19) F dX3_joinGroup_19 ?_
      refine g_ldc (pc := 22) F wk_X3_49 dX3_joinGroup_22 ?_
      refine g_iret (pc := 24) F r dX3_joinGroup_24 ?_
      have e : oJoin S gx x = (-1000001, S) := if_neg (fun q => inC_not hi hno q.2)
      rw [e]
      exact ⟨rfl, hr, frH.refl _ _⟩
  · refine g_astore_nN (pc := 5) F dX3_joinGroup_5 (by decide) rfl ?_
    refine g_aload_n (pc := 6) F dX3_joinGroup_6 rfl ?_
    refine g_iload_n (pc := 7) F dX3_joinGroup_7 rfl ?_
    refine g_callV (pc := 8) (rf2 := 0) (rl2 := 0) F cs_X3_58 (by assumption) rfl (by decide) (by rfl) (by rfl) (Nat.le_of_ble_eq_true (by rfl)) (by decide) dX3_joinGroup_8 (c_X3_clockAt _ g _ h hk (cn S) hn.1 (hr.1.trans hn.2) x) (fun v M2 hz => ?_)
    obtain ⟨h2, hz⟩ := hz
    rw [h2]
    rcases hz with ⟨i, hi6, hx, rfl⟩ | ⟨hno, rfl⟩
    · refine g_astore (pc := 11) F dX3_joinGroup_11 (by decide) rfl ?_
      refine g_aload_nN (pc := 13) F dX3_joinGroup_13 rfl ?_
      refine g_ifnullN (pc := 14) (tgt := 22) F dX3_joinGroup_14 (by decide) ?_
      refine g_ldc (pc := 22) F wk_X3_49 dX3_joinGroup_22 ?_
      refine g_iret (pc := 24) F r dX3_joinGroup_24 ?_
      have e : oJoin S gx x = (-1000001, S) := if_neg (fun q => inG_not hi hnoG q.1)
      rw [e]
      exact ⟨rfl, hr, frH.refl _ _⟩
    · refine g_astoreN (pc := 11) F dX3_joinGroup_11 (by decide) rfl ?_
      refine g_aload_nN (pc := 13) F dX3_joinGroup_13 rfl ?_
      refine g_ifnullN (pc := 14) (tgt := 22) F dX3_joinGroup_14 (by decide) ?_
      refine g_ldc (pc := 22) F wk_X3_49 dX3_joinGroup_22 ?_
      refine g_iret (pc := 24) F r dX3_joinGroup_24 ?_
      have e : oJoin S gx x = (-1000001, S) := if_neg (fun q => inG_not hi hnoG q.1)
      rw [e]
      exact ⟨rfl, hr, frH.refl _ _⟩

set_option maxHeartbeats 4000000 in
set_option maxRecDepth 100000 in
theorem c_X3_leaveGroup (l : Launch) (g : Gm) (M : Mem) (h : Nat) (hk : kd h = 3) (S : SV) (t : Nat) (hr : HR M h S) (hi : Inv S t) (gx x : Int32) : Cn l yX3_leaveGroup cX3_leaveGroup 4 (some .int) 2 40 g [.ref (ad g h), .int gx, .int x] M (fun v M2 => v = some (.int (oLeave S gx x).1) ∧ HR M2 h (oLeave S gx x).2 ∧ frH M M2 h) := by
  refine Cn.intro (lv0 := [some (.ref (ad g h)), some (.int gx), some (.int x), none]) 1 (by decide +kernel) (Nat.le_of_ble_eq_true rfl) rfl (fun X F r => ?_)
  obtain ⟨hk1, hk2, hkC, hkG⟩ := kd_hall hk
  have hn := hi.cn_le
  have hm := hi.gn_le
  refine g_aload_n (pc := 0) F dX3_leaveGroup_0 rfl ?_
  refine g_iload_n (pc := 1) F dX3_leaveGroup_1 rfl ?_
  refine g_callV (pc := 2) (rf2 := 0) (rl2 := 0) F cs_X3_122 (by assumption) rfl (by decide) (by rfl) (by rfl) (Nat.le_of_ble_eq_true (by rfl)) (by decide) dX3_leaveGroup_2 (c_X3_groupAt _ g _ h hk (gn S) hm.1 (hr.2.1.trans hm.2) gx) (fun v M2 hz => ?_)
  obtain ⟨h2, hz⟩ := hz
  rw [h2]
  rcases hz with ⟨gi, hg6, hgx, rfl⟩ | ⟨hnoG, rfl⟩
  · refine g_astore_n (pc := 5) F dX3_leaveGroup_5 (by decide) rfl ?_
    refine g_aload_n (pc := 6) F dX3_leaveGroup_6 rfl ?_
    refine g_ifnull (pc := 7) F dX3_leaveGroup_7 ?_
    refine g_aload_n (pc := 10) F dX3_leaveGroup_10 rfl ?_
    refine g_iload_n (pc := 11) F dX3_leaveGroup_11 rfl ?_
    refine g_callV (pc := 12) (rf2 := 0) (rl2 := 0) F cs_X3_58 (by assumption) rfl (by decide) (by rfl) (by rfl) (Nat.le_of_ble_eq_true (by rfl)) (by decide) dX3_leaveGroup_12 (c_X3_clockAt _ g _ h hk (cn S) hn.1 (hr.1.trans hn.2) x) (fun v M2 hz => ?_)
    obtain ⟨h2, hz⟩ := hz
    rw [h2]
    rcases hz with ⟨i, hi6, hx, rfl⟩ | ⟨hno, rfl⟩
    · refine g_ifnonnull (pc := 15) (tgt := 21) F dX3_leaveGroup_15 (by decide) ?_
      subst hgx
      subst hx
      have hkq := hkG gi (by omega)
      have hkc := hkC i (by omega)
      have hG := hr.2.2.2.2.2 gi hg6
      have hC := hr.2.2.2.2.1 i hi6
      have hin : inG S (nI gi) ∧ inC S (nI i) := ⟨inG_of hi hg6, inC_of hi hi6⟩
      have x1 : ixN (nI gi) = gi := ixN_nI (by omega)
      have x2 : ixN (nI i) = i := ixN_nI (by omega)
      refine g_aload_n (pc := 21) F dX3_leaveGroup_21 rfl ?_
      refine g_iload_n (pc := 22) F dX3_leaveGroup_22 rfl ?_
      refine g_callV (pc := 23) (rf2 := 0) (rl2 := 0) F cs_X3_127 (by assumption) rfl (by decide) (by rfl) (by rfl) (Nat.le_of_ble_eq_true (by rfl)) (by decide) dX3_leaveGroup_23 (c_X2_has _ g _ (h + 27 + gi) hkq _) (fun v M2 hz => ?_)
      obtain ⟨rfl, h3⟩ := hz
      rw [h3]
      refine g_if_ne (pc := 26) (tgt := 32) F dX3_leaveGroup_26 (by decide) (fun c26 => ?_) (fun c26 => ?_)
      · have hIn : isIn (gw S gi 1) i := by
          have := b2i_1 c26
          rw [hG 1 (by decide)] at this
          exact this
        refine g_aload_n (pc := 32) F dX3_leaveGroup_32 rfl ?_
        refine g_dup (pc := 33) F dX3_leaveGroup_33 rfl ?_
        refine g_geti (pc := 34) F fl_X3_134 (by assumption) rfl dX3_leaveGroup_34 ?_
        refine g_iconst (pc := 37) (v := 1) F dX3_leaveGroup_37 (by decide) ?_
        refine g_iload_n (pc := 38) F dX3_leaveGroup_38 rfl ?_
        refine g_ishl (pc := 39) F dX3_leaveGroup_39 ?_
        refine g_iconst (pc := 40) (v := -1) F dX3_leaveGroup_40 (by decide) ?_
        refine g_ixor (pc := 41) F dX3_leaveGroup_41 ?_
        refine g_iand (pc := 42) F dX3_leaveGroup_42 ?_
        refine g_puti (pc := 43) F fl_X3_134 rfl rfl (by assumption) rfl dX3_leaveGroup_43 ?_
        refine g_aload_n (pc := 46) F dX3_leaveGroup_46 rfl ?_
        refine g_callV (pc := 47) (rf2 := 1) (rl2 := 20) F cs_X3_131 (by assumption) rfl (by decide) (by rfl) (by rfl) (Nat.le_of_ble_eq_true (by rfl)) (by decide) dX3_leaveGroup_47 (c_X2_size _ g _ (h + 27 + gi) hkq) (fun v M2 hz => ?_)
        obtain ⟨rfl, h3⟩ := hz
        rw [h3]
        refine g_iret (pc := 50) F r dX3_leaveGroup_50 ?_
        have e : oLeave S (nI gi) (nI i) = (jbc (gw S gi 1 &&& ((1 <<< (nI i &&& 31)) ^^^ -1)), mem1 S gi (gw S gi 1 &&& ((1 <<< (nI i &&& 31)) ^^^ -1))) := by
          unfold oLeave
          rw [x1, x2, if_pos hin]
          exact if_pos hIn
        rw [e]
        rw [upd2_self, hG 1 (by decide), upd2_updr]
        refine ⟨rfl, HR_group hr hn.1 hm.1 (by omega) (fun j hj => ?_), fun y hy => updr_ne _ _ (by omega)⟩
        rw [upd_get, upd_get, hG j hj]
      · have hIn : ¬ isIn (gw S gi 1) i := by
          have := b2i_0 c26
          rw [hG 1 (by decide)] at this
          exact this
        refine g_ldc (pc := 29) F wk_X3_130 dX3_leaveGroup_29 ?_
        refine g_iret (pc := 31) F r dX3_leaveGroup_31 ?_
        have e : oLeave S (nI gi) (nI i) = (-1000002, S) := by
          unfold oLeave
          rw [x1, x2, if_pos hin]
          exact if_neg hIn
        rw [e]
        exact ⟨rfl, hr, frH.refl _ _⟩
    · refine g_ifnonnullN (pc := 15) F dX3_leaveGroup_15 ?_
      refine g_ldc (pc := 18) F wk_X3_49 dX3_leaveGroup_18 ?_
      refine g_iret (pc := 20) F r dX3_leaveGroup_20 ?_
      have e : oLeave S gx x = (-1000001, S) := if_neg (fun q => inC_not hi hno q.2)
      rw [e]
      exact ⟨rfl, hr, frH.refl _ _⟩
  · refine g_astore_nN (pc := 5) F dX3_leaveGroup_5 (by decide) rfl ?_
    refine g_aload_nN (pc := 6) F dX3_leaveGroup_6 rfl ?_
    refine g_ifnullN (pc := 7) (tgt := 18) F dX3_leaveGroup_7 (by decide) ?_
    refine g_ldc (pc := 18) F wk_X3_49 dX3_leaveGroup_18 ?_
    refine g_iret (pc := 20) F r dX3_leaveGroup_20 ?_
    have e : oLeave S gx x = (-1000001, S) := if_neg (fun q => inG_not hi hnoG q.1)
    rw [e]
    exact ⟨rfl, hr, frH.refl _ _⟩

theorem CR_copy {M : Mem} {k o : Nat} {w : Nat → Int32} (h : CR M o w) : CR (ccpM M k o) k w := by
  unfold ccpM CR
  rw [updr_ne _ _ (show k ≠ k + 3 by omega), updr_ne _ _ (show k ≠ k + 2 by omega), updr_self, updr_ne _ _ (show k + 1 ≠ k + 3 by omega), updr_ne _ _ (show k + 1 ≠ k + 2 by omega), updr_ne _ _ (show k + 1 ≠ k by omega), updr_self, updr_ne _ _ (show k + 2 ≠ k + 3 by omega), updr_self, updr_self]
  refine CRr_rows h (fun j hj h1 => ?_) (fun j hj => ?_) (fun j hj => ?_) (fun j hj => ?_)
  · match j, hj, h1 with
    | 0, _, _ | 2, _, _ | 3, _, _ | 4, _, _ | 5, _, _ | 6, _, _ | 7, _, _ => rfl
  · unfold va_cpy
    rw [if_pos ⟨Nat.zero_le _, by omega⟩]
    congr 1
    omega
  · unfold rcopy; rw [if_pos hj]
  · unfold rcopy; rw [if_pos hj]
theorem ccpM_ne (M : Mem) (k o : Nat) {a : Nat} (h : a < k ∨ k + 4 ≤ a) : ccpM M k o a = M a := by
  unfold ccpM
  rw [updr_ne _ _ (by omega), updr_ne _ _ (by omega), updr_ne _ _ (by omega), updr_ne _ _ (by omega)]
set_option maxHeartbeats 4000000 in
set_option maxRecDepth 100000 in
theorem c_X3_copyFrom (l : Launch) (g : Gm) (M : Mem) (h o : Nat) (hk : kd h = 3) (ho : kd o = 3) (hd : h + 31 ≤ o ∨ o + 31 ≤ h) (S : SV) (t : Nat) (hr : HR M o S) (hi : Inv S t) : Cn l yX3_copyFrom cX3_copyFrom 3 none 2 61 g [.ref (ad g h), .ref (ad g o)] M (fun v M2 => v = none ∧ HR M2 h S ∧ frH M M2 h) := by
  refine Cn.intro (lv0 := [some (.ref (ad g h)), some (.ref (ad g o)), none]) 1 (by decide +kernel) (Nat.le_of_ble_eq_true rfl) rfl (fun X F r => ?_)
  obtain ⟨hk1, hk2, hkC, hkG⟩ := kd_hall hk
  obtain ⟨ho1, ho2, hoC, hoG⟩ := kd_hall ho
  have hn := hi.cn_le
  have hm := hi.gn_le
  have LG : ∀ (n i : Nat) (x : Int32) (M1 : Mem), i + n = gn S → x = nI i → M1 h 1 = S 0 → M1 h 3 = S 1 → (∀ k, k < cn S → CR M1 (h + 3 + 4 * k) (cw S k)) → (∀ k, k < i → ∀ j, j < 4 → M1 (h + 27 + k) j = gw S k j) → frH M M1 h → G X g 3 M1 55 [some (.ref (ad g h)), some (.ref (ad g o)), some (.int x)] [] := by
    intro n
    induction n with
    | zero =>
      intro i x M1 hin hx hM1 hM3 hK1 hG1 hf1
      obtain rfl : i = gn S := by omega
      refine g_iload_n (pc := 55) F dX3_copyFrom_55 rfl ?_
      refine g_aload_n (pc := 56) F dX3_copyFrom_56 rfl ?_
      refine g_geti (pc := 57) F fl_X3_36 (by assumption) rfl dX3_copyFrom_57 ?_
      refine g_icmp_ge (pc := 60) (tgt := 89) F dX3_copyFrom_60 (by decide) (fun c60 => ?_) (fun c60 => ?_)
      · refine g_aload_n (pc := 89) F dX3_copyFrom_89 rfl ?_
        refine g_aload_n (pc := 90) F dX3_copyFrom_90 rfl ?_
        refine g_geti (pc := 91) F fl_X3_42 (by assumption) rfl dX3_copyFrom_91 ?_
        refine g_puti (pc := 94) F fl_X3_42 rfl rfl (by assumption) rfl dX3_copyFrom_94 ?_
        refine g_aload_n (pc := 97) F dX3_copyFrom_97 rfl ?_
        refine g_aload_n (pc := 98) F dX3_copyFrom_98 rfl ?_
        refine g_geti (pc := 99) F fl_X3_23 (by assumption) rfl dX3_copyFrom_99 ?_
        refine g_puti (pc := 102) F fl_X3_23 rfl rfl (by assumption) rfl dX3_copyFrom_102 ?_
        refine g_vret (pc := 105) F r dX3_copyFrom_105 ?_
        refine ⟨rfl, ⟨?_, ?_, ?_, ?_, ?_, ?_⟩, ?_⟩
        · rw [upd2_j _ _ _ (by decide), upd2_j _ _ _ (by decide)]; exact hM1
        · rw [upd2_j _ _ _ (by decide), upd2_j _ _ _ (by decide), hM3]
        · rw [upd2_j _ _ _ (by decide), upd2_self, hf1 o (by omega)]; exact hr.2.2.1
        · rw [upd2_self, upd2_k _ _ _ (by omega), hf1 o (by omega)]; exact hr.2.2.2.1
        · intro k hk
          show CRr _ _ _ _ _
          rw [upd2_k _ _ _ (by omega), upd2_k _ _ _ (by omega), upd2_k _ _ _ (by omega), upd2_k _ _ _ (by omega), upd2_k _ _ _ (by omega), upd2_k _ _ _ (by omega), upd2_k _ _ _ (by omega), upd2_k _ _ _ (by omega)]
          exact hK1 k hk
        · intro k hk j hj
          rw [upd2_k _ _ _ (by omega), upd2_k _ _ _ (by omega)]
          exact hG1 k hk j hj
        · exact hf1.trans (fun y hy => (upd2_k _ _ _ (by omega)).trans (upd2_k _ _ _ (by omega)))
      · exact absurd (by rw [hM3, hm.2, hx]; exact nI_le (by omega) (by omega)) c60
    | succ n ih =>
      intro i x M1 hin hx hM1 hM3 hK1 hG1 hf1
      refine g_iload_n (pc := 55) F dX3_copyFrom_55 rfl ?_
      refine g_aload_n (pc := 56) F dX3_copyFrom_56 rfl ?_
      refine g_geti (pc := 57) F fl_X3_36 (by assumption) rfl dX3_copyFrom_57 ?_
      refine g_icmp_ge (pc := 60) (tgt := 89) F dX3_copyFrom_60 (by decide) (fun c60 => ?_) (fun c60 => ?_)
      · exact absurd c60 (by rw [hM3, hm.2, hx]; exact nI_ge (by omega) (by omega))
      · refine g_iload_n (pc := 63) F dX3_copyFrom_63 rfl ?_
        refine g_iconst (pc := 64) (v := 4) F dX3_copyFrom_64 (by decide) ?_
        refine g_icmp_ge (pc := 65) (tgt := 89) F dX3_copyFrom_65 (by decide) (fun c65 => ?_) (fun c65 => ?_)
        · exact absurd c65 (by rw [hx]; exact nI_ge (a := i) (b := 4) (by omega) (by decide))
        · refine g_aload_n (pc := 68) F dX3_copyFrom_68 rfl ?_
          refine g_getr (pc := 69) F fl_X3_19 (by assumption) rfl dX3_copyFrom_69 ?_
          refine g_iload_n (pc := 72) F dX3_copyFrom_72 rfl ?_
          refine g_aaldG (pc := 73) (q := i) (r := h + 27 + i) F hk2 hx (by omega) (by omega) dX3_copyFrom_73 ?_
          refine g_aload_n (pc := 74) F dX3_copyFrom_74 rfl ?_
          refine g_getr (pc := 75) F fl_X3_19 (by assumption) rfl dX3_copyFrom_75 ?_
          refine g_iload_n (pc := 78) F dX3_copyFrom_78 rfl ?_
          refine g_aaldG (pc := 79) (q := i) (r := o + 27 + i) F ho2 hx (by omega) (by omega) dX3_copyFrom_79 ?_
          refine g_callV (pc := 80) (rf2 := 0) (rl2 := 0) F cs_X3_39 (hkG i (by omega)) rfl (by decide) (by rfl) (by rfl) (Nat.le_of_ble_eq_true (by rfl)) (by decide) dX3_copyFrom_80 (c_X2_copyFrom _ g _ (h + 27 + i) (o + 27 + i) (hkG i (by omega)) (hoG i (by omega)) (by omega)) (fun v M2 hz => ?_)
          obtain ⟨rfl, rfl⟩ := hz
          refine g_iinc (pc := 83) F dX3_copyFrom_83 rfl rfl (by decide) rfl ?_
          refine g_goto (pc := 86) (tgt := 55) F dX3_copyFrom_86 (by decide) ?_
          refine G.sub [some (.ref (ad g h)), some (.ref (ad g o)), some (.int (x + Int32.ofInt 1))] ⟨rfl, rfl, rfl, trivial⟩ (ih (i + 1) _ _ (by omega) (by rw [hx]; exact nI_1 i) ?_ ?_ ?_ ?_ ?_)
          · rw [updr_ne _ _ (by omega)]; exact hM1
          · rw [updr_ne _ _ (by omega)]; exact hM3
          · intro k hk
            show CRr _ _ _ _ _
            rw [updr_ne _ _ (by omega), updr_ne _ _ (by omega), updr_ne _ _ (by omega), updr_ne _ _ (by omega)]
            exact hK1 k hk
          · intro k hk j hj
            by_cases hki : k = i
            · subst hki
              rw [updr_self, if_pos hj, hf1 _ (by omega)]
              exact hr.2.2.2.2.2 k (by omega) j hj
            · rw [updr_ne _ _ (by omega)]
              exact hG1 k (by omega) j hj
          · exact hf1.trans (fun y hy => updr_ne _ _ (by omega))
  have LC : ∀ (n i : Nat) (x : Int32) (M1 : Mem), i + n = cn S → x = nI i → M1 h 1 = S 0 → (∀ k, k < i → CR M1 (h + 3 + 4 * k) (cw S k)) → frH M M1 h → G X g 3 M1 10 [some (.ref (ad g h)), some (.ref (ad g o)), some (.int x)] [] := by
    intro n
    induction n with
    | zero =>
      intro i x M1 hin hx hM1 hK1 hf1
      obtain rfl : i = cn S := by omega
      refine g_iload_n (pc := 10) F dX3_copyFrom_10 rfl ?_
      refine g_aload_n (pc := 11) F dX3_copyFrom_11 rfl ?_
      refine g_geti (pc := 12) F fl_X3_29 (by assumption) rfl dX3_copyFrom_12 ?_
      refine g_icmp_ge (pc := 15) (tgt := 45) F dX3_copyFrom_15 (by decide) (fun c15 => ?_) (fun c15 => ?_)
      · refine g_aload_n (pc := 45) F dX3_copyFrom_45 rfl ?_
        refine g_aload_n (pc := 46) F dX3_copyFrom_46 rfl ?_
        refine g_geti (pc := 47) F fl_X3_36 (by assumption) rfl dX3_copyFrom_47 ?_
        refine g_puti (pc := 50) F fl_X3_36 rfl rfl (by assumption) rfl dX3_copyFrom_50 ?_
        refine g_iconst (pc := 53) (v := 0) F dX3_copyFrom_53 (by decide) ?_
        refine g_istore_n (pc := 54) F dX3_copyFrom_54 (by decide) rfl ?_
        refine LG (gn S) 0 _ _ (by omega) nI_0.symm ?_ ?_ ?_ ?_ ?_
        · rw [upd2_j _ _ _ (by decide)]; exact hM1
        · rw [upd2_self, hf1 o (by omega)]; exact hr.2.1
        · intro k hk
          show CRr _ _ _ _ _
          rw [upd2_k _ _ _ (by omega), upd2_k _ _ _ (by omega), upd2_k _ _ _ (by omega), upd2_k _ _ _ (by omega)]
          exact hK1 k (by omega)
        · intro k hk; omega
        · exact hf1.trans (fun y hy => upd2_k _ _ _ (by omega))
      · exact absurd (by rw [hM1, hn.2, hx]; exact nI_le (by omega) (by omega)) c15
    | succ n ih =>
      intro i x M1 hin hx hM1 hK1 hf1
      refine g_iload_n (pc := 10) F dX3_copyFrom_10 rfl ?_
      refine g_aload_n (pc := 11) F dX3_copyFrom_11 rfl ?_
      refine g_geti (pc := 12) F fl_X3_29 (by assumption) rfl dX3_copyFrom_12 ?_
      refine g_icmp_ge (pc := 15) (tgt := 45) F dX3_copyFrom_15 (by decide) (fun c15 => ?_) (fun c15 => ?_)
      · exact absurd c15 (by rw [hM1, hn.2, hx]; exact nI_ge (by omega) (by omega))
      · refine g_iload_n (pc := 18) F dX3_copyFrom_18 rfl ?_
        refine g_bipush (pc := 19) (v := 6) F dX3_copyFrom_19 (by decide) ?_
        refine g_icmp_ge (pc := 21) (tgt := 45) F dX3_copyFrom_21 (by decide) (fun c21 => ?_) (fun c21 => ?_)
        · exact absurd c21 (by rw [hx]; exact nI_ge (a := i) (b := 6) (by omega) (by decide))
        · refine g_aload_n (pc := 24) F dX3_copyFrom_24 rfl ?_
          refine g_getr (pc := 25) F fl_X3_11 (by assumption) rfl dX3_copyFrom_25 ?_
          refine g_iload_n (pc := 28) F dX3_copyFrom_28 rfl ?_
          refine g_aaldK (pc := 29) (q := i) (r := h + 3 + 4 * i) F hk1 hx (by omega) (by omega) dX3_copyFrom_29 ?_
          refine g_aload_n (pc := 30) F dX3_copyFrom_30 rfl ?_
          refine g_getr (pc := 31) F fl_X3_11 (by assumption) rfl dX3_copyFrom_31 ?_
          refine g_iload_n (pc := 34) F dX3_copyFrom_34 rfl ?_
          refine g_aaldK (pc := 35) (q := i) (r := o + 3 + 4 * i) F ho1 hx (by omega) (by omega) dX3_copyFrom_35 ?_
          refine g_callV (pc := 36) (rf2 := 1) (rl2 := 40) F cs_X3_32 (hkC i (by omega)) rfl (by decide) (by rfl) (by rfl) (Nat.le_of_ble_eq_true (by rfl)) (by decide) dX3_copyFrom_36 (c_X0_copyFrom _ g _ (h + 3 + 4 * i) (o + 3 + 4 * i) (hkC i (by omega)) (hoC i (by omega)) (by omega)) (fun v M2 hz => ?_)
          obtain ⟨rfl, rfl⟩ := hz
          refine g_iinc (pc := 39) F dX3_copyFrom_39 rfl rfl (by decide) rfl ?_
          refine g_goto (pc := 42) (tgt := 10) F dX3_copyFrom_42 (by decide) ?_
          refine G.sub [some (.ref (ad g h)), some (.ref (ad g o)), some (.int (x + Int32.ofInt 1))] ⟨rfl, rfl, rfl, trivial⟩ (ih (i + 1) _ _ (by omega) (by rw [hx]; exact nI_1 i) ?_ ?_ ?_)
          · rw [ccpM_ne _ _ _ (by omega)]; exact hM1
          · intro k hk
            by_cases hki : k = i
            · subst hki
              refine CR_copy ?_
              have := hr.2.2.2.2.1 k (by omega)
              show CRr _ _ _ _ _
              rw [hf1 _ (by omega), hf1 _ (by omega), hf1 _ (by omega), hf1 _ (by omega)]
              exact this
            · show CRr _ _ _ _ _
              rw [ccpM_ne _ _ _ (by omega), ccpM_ne _ _ _ (by omega), ccpM_ne _ _ _ (by omega), ccpM_ne _ _ _ (by omega)]
              exact hK1 k (by omega)
          · exact hf1.trans (fun y hy => ccpM_ne _ _ _ (by omega))
  refine g_aload_n (pc := 0) F dX3_copyFrom_0 rfl ?_
  refine g_aload_n (pc := 1) F dX3_copyFrom_1 rfl ?_
  refine g_geti (pc := 2) F fl_X3_29 (by assumption) rfl dX3_copyFrom_2 ?_
  refine g_puti (pc := 5) F fl_X3_29 rfl rfl (by assumption) rfl dX3_copyFrom_5 ?_
  refine g_iconst (pc := 8) (v := 0) F dX3_copyFrom_8 (by decide) ?_
  refine g_istore_n (pc := 9) F dX3_copyFrom_9 (by decide) rfl ?_
  refine LC (cn S) 0 _ _ (by omega) nI_0.symm ?_ ?_ ?_
  · rw [upd2_self]; exact hr.1
  · intro k hk; omega
  · exact fun y hy => upd2_k _ _ _ (by omega)
end
section
/-! what a hall tells -/
/-- the numbers of a clock as it tells them -/
def wv (w : Nat → Int32) (q : Nat) : Int32 := match q with
  | 5 => w 6
  | 6 => w 7
  | 7 => w 6 - w 7
  | 10 => if w 8 = 0 then -1000004 else w 11
  | 11 => w 12
  | 12 => w 13
  | 13 => w 14
  | q => w q
theorem i_sub_sub (a b : Int32) : a - (a - b) = b := by
  rw [Int32.sub_eq_iff_eq_add, Int32.add_comm, Int32.sub_add_cancel]
theorem tellV_wv {M : Mem} {c : Nat} {w : Nat → Int32} (h : CR M c w) (q : Nat) (hq : q < 14) : tellV M c q = wv w q := by
  obtain ⟨h0, h1, h2, h3, h4, h5, h6, h7, h8, h9, h10, h11, h12, h13⟩ := h
  match q, hq with
  | 0, _ => exact h0
  | 1, _ => exact h1 0 (by decide)
  | 2, _ => exact h1 1 (by decide)
  | 3, _ => exact h1 2 (by decide)
  | 4, _ => exact h1 3 (by decide)
  | 5, _ => exact h3
  | 6, _ =>
    show M c 3 - M c 4 = w 7
    rw [h3, h4, i_sub_sub]
  | 7, _ => exact h4
  | 8, _ => exact h8
  | 9, _ => exact h9
  | 10, _ =>
    show (if M (c + 2) 0 = 0 then (-1000004 : Int32) else M (c + 2) 4) = (if w 8 = 0 then -1000004 else w 11)
    rw [h8, h12]
  | 11, _ => exact h5
  | 12, _ => exact h6
  | 13, _ => exact h7
def sumW (S : SV) (z : Int32) (q : Nat) : Nat → Int32
  | 0 => 0
  | i + 1 => if isIn z i then sumW S z q i + wv (cw S i) q else sumW S z q i
abbrev restW (S : SV) (i : Nat) : Int32 := cw S i 6 - cw S i 7
def leastW (S : SV) (z : Int32) : Nat → Int32
  | 0 => -1000004
  | i + 1 => if isIn z i ∧ (leastW S z i = -1000004 ∨ restW S i < leastW S z i) then restW S i else leastW S z i
def aheadW (S : SV) (c : Nat) : Nat → Int32
  | 0 => 0
  | i + 1 => if restW S i < restW S c ∨ (restW S i = restW S c ∧ i < c) then aheadW S c i + 1 else aheadW S c i
/-- the clock in a place, from the clock cn S - k on -/
def nextW (S : SV) (p : Int32) : Nat → Int32
  | 0 => -1000004
  | k + 1 => if aheadW S (cn S - (k + 1)) (cn S) = p then nI (cn S - (k + 1)) else nextW S p k
def aboutW (S : SV) : Nat → Int32
  | 0 => 0
  | i + 1 => if restW S i = 1 then aboutW S i ||| (1 <<< (nI i &&& 31)) else aboutW S i
def oldestW (S : SV) : Nat → Int32
  | 0 => -1000004
  | i + 1 => if oldestW S i < cw S i 7 then cw S i 7 else oldestW S i
set_option maxHeartbeats 4000000 in
set_option maxRecDepth 100000 in
theorem c_X3_sumOver (l : Launch) (g : Gm) (M : Mem) (h : Nat) (hk : kd h = 3) (S : SV) (t : Nat) (hr : HR M h S) (hi : Inv S t) (z : Int32) (q : Nat) (hq : q < 14) : Cn l yX3_sumOver cX3_sumOver 5 (some .int) 2 41 g [.ref (ad g h), .int z, .int (nI q)] M (fun v M2 => v = some (.int (sumW S z q (cn S))) ∧ M2 = M) := by
  refine Cn.intro (lv0 := [some (.ref (ad g h)), some (.int z), some (.int (nI q)), none, none]) 2 (by decide +kernel) (Nat.le_of_ble_eq_true rfl) rfl (fun X F r => ?_)
  obtain ⟨hk1, hk2, hkC, hkG⟩ := kd_hall hk
  have hn := hi.cn_le
  have hm := hi.gn_le
  have L : ∀ (n i : Nat) (x : Int32), i + n = cn S → x = nI i → G X g 5 M 5 [some (.ref (ad g h)), some (.int z), some (.int (nI q)), some (.int (sumW S z q i)), some (.int x)] [] := by
    intro n
    induction n with
    | zero =>
      intro i x hin hx
      obtain rfl : i = cn S := by omega
      refine g_iload (pc := 5) F dX3_sumOver_5 rfl ?_
      refine g_aload_n (pc := 7) F dX3_sumOver_7 rfl ?_
      refine g_geti (pc := 8) F fl_X3_29 (by assumption) rfl dX3_sumOver_8 ?_
      refine g_icmp_ge (pc := 11) (tgt := 53) F dX3_sumOver_11 (by decide) (fun c11 => ?_) (fun c11 => ?_)
      · refine g_iload_n (pc := 53) F dX3_sumOver_53 rfl ?_
        refine g_iret (pc := 54) F r dX3_sumOver_54 ?_
        exact ⟨rfl, rfl⟩
      · exact absurd (by rw [hr.1, hn.2, hx]; exact nI_le (by omega) (by omega)) c11
    | succ n ih =>
      intro i x hin hx
      have hC := hr.2.2.2.2.1 i (by omega)
      have hkc := hkC i (by omega)
      refine g_iload (pc := 5) F dX3_sumOver_5 rfl ?_
      refine g_aload_n (pc := 7) F dX3_sumOver_7 rfl ?_
      refine g_geti (pc := 8) F fl_X3_29 (by assumption) rfl dX3_sumOver_8 ?_
      refine g_icmp_ge (pc := 11) (tgt := 53) F dX3_sumOver_11 (by decide) (fun c11 => ?_) (fun c11 => ?_)
      · exact absurd c11 (by rw [hr.1, hn.2, hx]; exact nI_ge (by omega) (by omega))
      · refine g_iload (pc := 14) F dX3_sumOver_14 rfl ?_
        refine g_aload_n (pc := 16) F dX3_sumOver_16 rfl ?_
        refine g_getr (pc := 17) F fl_X3_11 (by assumption) rfl dX3_sumOver_17 ?_
        refine g_alenK (pc := 20) F (by assumption) (v := 6) (by decide) dX3_sumOver_20 ?_
        refine g_icmp_ge (pc := 21) (tgt := 53) F dX3_sumOver_21 (by decide) (fun c21 => ?_) (fun c21 => ?_)
        · exact absurd c21 (by rw [hx]; exact nI_ge (a := i) (b := 6) (by omega) (by decide))
        · refine g_iload_n (pc := 24) F dX3_sumOver_24 rfl ?_
          refine g_iconst (pc := 25) (v := 1) F dX3_sumOver_25 (by decide) ?_
          refine g_iload (pc := 26) F dX3_sumOver_26 rfl ?_
          refine g_ishl (pc := 28) F dX3_sumOver_28 ?_
          refine g_iand (pc := 29) F dX3_sumOver_29 ?_
          refine g_if_eq (pc := 30) (tgt := 47) F dX3_sumOver_30 (by decide) (fun c30 => ?_) (fun c30 => ?_)
          · refine g_iinc (pc := 47) F dX3_sumOver_47 rfl rfl (by decide) rfl ?_
            refine g_goto (pc := 50) (tgt := 5) F dX3_sumOver_50 (by decide) ?_
            refine G.sub [some (.ref (ad g h)), some (.int z), some (.int (nI q)), some (.int (sumW S z q (i + 1))), some (.int (x + Int32.ofInt 1))] ⟨rfl, rfl, rfl, ?_, rfl, trivial⟩ (ih (i + 1) _ (by omega) (by rw [hx]; exact nI_1 i))
            · show some (Value.int _) = some (Value.int (if isIn z i then _ else _))
              rw [if_neg (by rw [hx] at c30; exact fun e => e c30)]
          · refine g_iload_n (pc := 33) F dX3_sumOver_33 rfl ?_
            refine g_aload_n (pc := 34) F dX3_sumOver_34 rfl ?_
            refine g_getr (pc := 35) F fl_X3_11 (by assumption) rfl dX3_sumOver_35 ?_
            refine g_iload (pc := 38) F dX3_sumOver_38 rfl ?_
            refine g_aaldK (pc := 40) (q := i) (r := h + 3 + 4 * i) F hk1 hx (by omega) (by omega) dX3_sumOver_40 ?_
            refine g_iload_n (pc := 41) F dX3_sumOver_41 rfl ?_
            refine g_callV (pc := 42) (rf2 := 1) (rl2 := 20) F cs_X3_138 (by assumption) rfl (by decide) (by rfl) (by rfl) (Nat.le_of_ble_eq_true (by rfl)) (by decide) dX3_sumOver_42 (c_X0_tell _ g _ (h + 3 + 4 * i) hkc q hq) (fun v M2 hz => ?_)
            obtain ⟨rfl, h2⟩ := hz
            rw [h2]
            refine g_iadd (pc := 45) F dX3_sumOver_45 ?_
            refine g_istore_n (pc := 46) F dX3_sumOver_46 (by decide) rfl ?_
            refine g_iinc (pc := 47) F dX3_sumOver_47 rfl rfl (by decide) rfl ?_
            refine g_goto (pc := 50) (tgt := 5) F dX3_sumOver_50 (by decide) ?_
            refine G.sub [some (.ref (ad g h)), some (.int z), some (.int (nI q)), some (.int (sumW S z q (i + 1))), some (.int (x + Int32.ofInt 1))] ⟨rfl, rfl, rfl, ?_, rfl, trivial⟩ (ih (i + 1) _ (by omega) (by rw [hx]; exact nI_1 i))
            · show some (Value.int _) = some (Value.int (if isIn z i then _ else _))
              rw [if_pos (by rw [hx] at c30; exact c30), tellV_wv hC q hq]
  refine g_iconst (pc := 0) (v := 0) F dX3_sumOver_0 (by decide) ?_
  refine g_istore_n (pc := 1) F dX3_sumOver_1 (by decide) rfl ?_
  refine g_iconst (pc := 2) (v := 0) F dX3_sumOver_2 (by decide) ?_
  refine g_istore (pc := 3) F dX3_sumOver_3 (by decide) rfl ?_
  exact L (cn S) 0 _ (by omega) nI_0.symm

set_option maxHeartbeats 4000000 in
set_option maxRecDepth 100000 in
theorem c_X3_leastRest (l : Launch) (g : Gm) (M : Mem) (h : Nat) (hk : kd h = 3) (S : SV) (t : Nat) (hr : HR M h S) (hi : Inv S t) (z : Int32) : Cn l yX3_leastRest cX3_leastRest 5 (some .int) 0 0 g [.ref (ad g h), .int z] M (fun v M2 => v = some (.int (leastW S z (cn S))) ∧ M2 = M) := by
  refine Cn.intro (lv0 := [some (.ref (ad g h)), some (.int z), none, none, none]) 3 (by decide +kernel) (Nat.le_of_ble_eq_true rfl) rfl (fun X F r => ?_)
  obtain ⟨hk1, hk2, hkC, hkG⟩ := kd_hall hk
  have hn := hi.cn_le
  have hm := hi.gn_le
  have L : ∀ (n i : Nat) (x : Int32), i + n = cn S → x = nI i → G X g 5 M 5 [some (.ref (ad g h)), some (.int z), some (.int (leastW S z i)), some (.int x), none] [] := by
    intro n
    induction n with
    | zero =>
      intro i x hin hx
      obtain rfl : i = cn S := by omega
      refine g_iload_n (pc := 5) F dX3_leastRest_5 rfl ?_
      refine g_aload_n (pc := 6) F dX3_leastRest_6 rfl ?_
      refine g_geti (pc := 7) F fl_X3_29 (by assumption) rfl dX3_leastRest_7 ?_
      refine g_icmp_ge (pc := 10) (tgt := 77) F dX3_leastRest_10 (by decide) (fun c10 => ?_) (fun c10 => ?_)
      · refine g_iload_n (pc := 77) F dX3_leastRest_77 rfl ?_
        refine g_iret (pc := 78) F r dX3_leastRest_78 ?_
        exact ⟨rfl, rfl⟩
      · exact absurd (by rw [hr.1, hn.2, hx]; exact nI_le (by omega) (by omega)) c10
    | succ n ih =>
      intro i x hin hx
      have hC := hr.2.2.2.2.1 i (by omega)
      have hkc := hkC i (by omega)
      refine g_iload_n (pc := 5) F dX3_leastRest_5 rfl ?_
      refine g_aload_n (pc := 6) F dX3_leastRest_6 rfl ?_
      refine g_geti (pc := 7) F fl_X3_29 (by assumption) rfl dX3_leastRest_7 ?_
      refine g_icmp_ge (pc := 10) (tgt := 77) F dX3_leastRest_10 (by decide) (fun c10 => ?_) (fun c10 => ?_)
      · exact absurd c10 (by rw [hr.1, hn.2, hx]; exact nI_ge (by omega) (by omega))
      · refine g_iload_n (pc := 13) F dX3_leastRest_13 rfl ?_
        refine g_aload_n (pc := 14) F dX3_leastRest_14 rfl ?_
        refine g_getr (pc := 15) F fl_X3_11 (by assumption) rfl dX3_leastRest_15 ?_
        refine g_alenK (pc := 18) F (by assumption) (v := 6) (by decide) dX3_leastRest_18 ?_
        refine g_icmp_ge (pc := 19) (tgt := 77) F dX3_leastRest_19 (by decide) (fun c19 => ?_) (fun c19 => ?_)
        · exact absurd c19 (by rw [hx]; exact nI_ge (a := i) (b := 6) (by omega) (by decide))
        · refine g_iload_n (pc := 22) F dX3_leastRest_22 rfl ?_
          refine g_iconst (pc := 23) (v := 1) F dX3_leastRest_23 (by decide) ?_
          refine g_iload_n (pc := 24) F dX3_leastRest_24 rfl ?_
          refine g_ishl (pc := 25) F dX3_leastRest_25 ?_
          refine g_iand (pc := 26) F dX3_leastRest_26 ?_
          refine g_if_eq (pc := 27) (tgt := 34) F dX3_leastRest_27 (by decide) (fun c27 => ?_) (fun c27 => ?_)
          · refine g_iconst (pc := 34) (v := 0) F dX3_leastRest_34 (by decide) ?_
            refine g_istore (pc := 35) F dX3_leastRest_35 (by decide) rfl ?_
            refine g_iload (pc := 37) F dX3_leastRest_37 rfl ?_
            refine g_if_eq (pc := 39) (tgt := 71) F dX3_leastRest_39 (by decide) (fun c39 => ?_) (fun c39 => ?_)
            · refine g_iinc (pc := 71) F dX3_leastRest_71 rfl rfl (by decide) rfl ?_
              refine g_goto (pc := 74) (tgt := 5) F dX3_leastRest_74 (by decide) ?_
              refine G.sub [some (.ref (ad g h)), some (.int z), some (.int (leastW S z (i + 1))), some (.int (x + Int32.ofInt 1)), none] ⟨rfl, rfl, ?_, rfl, trivial⟩ (ih (i + 1) _ (by omega) (by rw [hx]; exact nI_1 i))
              · show some (Value.int _) = some (Value.int (if isIn z i ∧ _ then _ else _))
                rw [if_neg (fun e => e.1 (by rw [hx] at c27; exact c27))]
            · exact absurd rfl c39
          · refine g_iconst (pc := 30) (v := 1) F dX3_leastRest_30 (by decide) ?_
            refine g_goto (pc := 31) (tgt := 35) F dX3_leastRest_31 (by decide) ?_
            refine g_istore (pc := 35) F dX3_leastRest_35 (by decide) rfl ?_
            refine g_iload (pc := 37) F dX3_leastRest_37 rfl ?_
            refine g_if_eq (pc := 39) (tgt := 71) F dX3_leastRest_39 (by decide) (fun c39 => ?_) (fun c39 => ?_)
            · exact absurd c39 (by decide)
            · refine g_iload_n (pc := 42) F dX3_leastRest_42 rfl ?_
              refine g_ldc (pc := 43) F wk_X3_137 dX3_leastRest_43 ?_
              refine g_icmp_eq (pc := 45) (tgt := 61) F dX3_leastRest_45 (by decide) (fun c45 => ?_) (fun c45 => ?_)
              · refine g_aload_n (pc := 61) F dX3_leastRest_61 rfl ?_
                refine g_getr (pc := 62) F fl_X3_11 (by assumption) rfl dX3_leastRest_62 ?_
                refine g_iload_n (pc := 65) F dX3_leastRest_65 rfl ?_
                refine g_aaldK (pc := 66) (q := i) (r := h + 3 + 4 * i) F hk1 hx (by omega) (by omega) dX3_leastRest_66 ?_
                refine g_geti (pc := 67) F fl_X3_113 (by assumption) rfl dX3_leastRest_67 ?_
                refine g_istore_n (pc := 70) F dX3_leastRest_70 (by decide) rfl ?_
                refine g_iinc (pc := 71) F dX3_leastRest_71 rfl rfl (by decide) rfl ?_
                refine g_goto (pc := 74) (tgt := 5) F dX3_leastRest_74 (by decide) ?_
                refine G.sub [some (.ref (ad g h)), some (.int z), some (.int (leastW S z (i + 1))), some (.int (x + Int32.ofInt 1)), none] ⟨rfl, rfl, ?_, rfl, trivial⟩ (ih (i + 1) _ (by omega) (by rw [hx]; exact nI_1 i))
                · show some (Value.int _) = some (Value.int (if isIn z i ∧ _ then _ else _))
                  rw [if_pos ⟨by rw [hx] at c27; exact c27, Or.inl c45⟩, hC.2.2.2.2.1]
              · refine g_aload_n (pc := 48) F dX3_leastRest_48 rfl ?_
                refine g_getr (pc := 49) F fl_X3_11 (by assumption) rfl dX3_leastRest_49 ?_
                refine g_iload_n (pc := 52) F dX3_leastRest_52 rfl ?_
                refine g_aaldK (pc := 53) (q := i) (r := h + 3 + 4 * i) F hk1 hx (by omega) (by omega) dX3_leastRest_53 ?_
                refine g_geti (pc := 54) F fl_X3_113 (by assumption) rfl dX3_leastRest_54 ?_
                refine g_iload_n (pc := 57) F dX3_leastRest_57 rfl ?_
                refine g_icmp_ge (pc := 58) (tgt := 71) F dX3_leastRest_58 (by decide) (fun c58 => ?_) (fun c58 => ?_)
                · refine g_iinc (pc := 71) F dX3_leastRest_71 rfl rfl (by decide) rfl ?_
                  refine g_goto (pc := 74) (tgt := 5) F dX3_leastRest_74 (by decide) ?_
                  refine G.sub [some (.ref (ad g h)), some (.int z), some (.int (leastW S z (i + 1))), some (.int (x + Int32.ofInt 1)), none] ⟨rfl, rfl, ?_, rfl, trivial⟩ (ih (i + 1) _ (by omega) (by rw [hx]; exact nI_1 i))
                  · show some (Value.int _) = some (Value.int (if isIn z i ∧ _ then _ else _))
                    rw [hC.2.2.2.2.1] at c58
                    rw [if_neg (fun e => e.2.elim c45 (fun w => Int32.not_lt.mpr c58 w))]
                · refine g_aload_n (pc := 61) F dX3_leastRest_61 rfl ?_
                  refine g_getr (pc := 62) F fl_X3_11 (by assumption) rfl dX3_leastRest_62 ?_
                  refine g_iload_n (pc := 65) F dX3_leastRest_65 rfl ?_
                  refine g_aaldK (pc := 66) (q := i) (r := h + 3 + 4 * i) F hk1 hx (by omega) (by omega) dX3_leastRest_66 ?_
                  refine g_geti (pc := 67) F fl_X3_113 (by assumption) rfl dX3_leastRest_67 ?_
                  refine g_istore_n (pc := 70) F dX3_leastRest_70 (by decide) rfl ?_
                  refine g_iinc (pc := 71) F dX3_leastRest_71 rfl rfl (by decide) rfl ?_
                  refine g_goto (pc := 74) (tgt := 5) F dX3_leastRest_74 (by decide) ?_
                  refine G.sub [some (.ref (ad g h)), some (.int z), some (.int (leastW S z (i + 1))), some (.int (x + Int32.ofInt 1)), none] ⟨rfl, rfl, ?_, rfl, trivial⟩ (ih (i + 1) _ (by omega) (by rw [hx]; exact nI_1 i))
                  · show some (Value.int _) = some (Value.int (if isIn z i ∧ _ then _ else _))
                    rw [hC.2.2.2.2.1] at c58
                    rw [if_pos ⟨by rw [hx] at c27; exact c27, Or.inr (Int32.not_le.mp c58)⟩, hC.2.2.2.2.1]
  refine g_ldc (pc := 0) F wk_X3_137 dX3_leastRest_0 ?_
  refine g_istore_n (pc := 2) F dX3_leastRest_2 (by decide) rfl ?_
  refine g_iconst (pc := 3) (v := 0) F dX3_leastRest_3 (by decide) ?_
  refine g_istore_n (pc := 4) F dX3_leastRest_4 (by decide) rfl ?_
  exact L (cn S) 0 _ (by omega) nI_0.symm

set_option maxHeartbeats 4000000 in
set_option maxRecDepth 100000 in
theorem c_X3_clocksAhead (l : Launch) (g : Gm) (M : Mem) (h : Nat) (hk : kd h = 3) (S : SV) (t : Nat) (hr : HR M h S) (hi : Inv S t) (c : Nat) (hc : c < cn S) : Cn l yX3_clocksAhead cX3_clocksAhead 6 (some .int) 0 0 g [.ref (ad g h), .int (nI c), .int (restW S c)] M (fun v M2 => v = some (.int (aheadW S c (cn S))) ∧ M2 = M) := by
  refine Cn.intro (lv0 := [some (.ref (ad g h)), some (.int (nI c)), some (.int (restW S c)), none, none, none]) 3 (by decide +kernel) (Nat.le_of_ble_eq_true rfl) rfl (fun X F r => ?_)
  obtain ⟨hk1, hk2, hkC, hkG⟩ := kd_hall hk
  have hn := hi.cn_le
  have hm := hi.gn_le
  have L : ∀ (n i : Nat) (x : Int32), i + n = cn S → x = nI i → G X g 6 M 5 [some (.ref (ad g h)), some (.int (nI c)), some (.int (restW S c)), some (.int (aheadW S c i)), some (.int x), none] [] := by
    intro n
    induction n with
    | zero =>
      intro i x hin hx
      obtain rfl : i = cn S := by omega
      refine g_iload (pc := 5) F dX3_clocksAhead_5 rfl ?_
      refine g_aload_n (pc := 7) F dX3_clocksAhead_7 rfl ?_
      refine g_geti (pc := 8) F fl_X3_29 (by assumption) rfl dX3_clocksAhead_8 ?_
      refine g_icmp_ge (pc := 11) (tgt := 63) F dX3_clocksAhead_11 (by decide) (fun c11 => ?_) (fun c11 => ?_)
      · refine g_iload_n (pc := 63) F dX3_clocksAhead_63 rfl ?_
        refine g_iret (pc := 64) F r dX3_clocksAhead_64 ?_
        exact ⟨rfl, rfl⟩
      · exact absurd (by rw [hr.1, hn.2, hx]; exact nI_le (by omega) (by omega)) c11
    | succ n ih =>
      intro i x hin hx
      have hC := hr.2.2.2.2.1 i (by omega)
      have hkc := hkC i (by omega)
      refine g_iload (pc := 5) F dX3_clocksAhead_5 rfl ?_
      refine g_aload_n (pc := 7) F dX3_clocksAhead_7 rfl ?_
      refine g_geti (pc := 8) F fl_X3_29 (by assumption) rfl dX3_clocksAhead_8 ?_
      refine g_icmp_ge (pc := 11) (tgt := 63) F dX3_clocksAhead_11 (by decide) (fun c11 => ?_) (fun c11 => ?_)
      · exact absurd c11 (by rw [hr.1, hn.2, hx]; exact nI_ge (by omega) (by omega))
      · refine g_iload (pc := 14) F dX3_clocksAhead_14 rfl ?_
        refine g_aload_n (pc := 16) F dX3_clocksAhead_16 rfl ?_
        refine g_getr (pc := 17) F fl_X3_11 (by assumption) rfl dX3_clocksAhead_17 ?_
        refine g_alenK (pc := 20) F (by assumption) (v := 6) (by decide) dX3_clocksAhead_20 ?_
        refine g_icmp_ge (pc := 21) (tgt := 63) F dX3_clocksAhead_21 (by decide) (fun c21 => ?_) (fun c21 => ?_)
        · exact absurd c21 (by rw [hx]; exact nI_ge (a := i) (b := 6) (by omega) (by decide))
        · refine g_aload_n (pc := 24) F dX3_clocksAhead_24 rfl ?_
          refine g_getr (pc := 25) F fl_X3_11 (by assumption) rfl dX3_clocksAhead_25 ?_
          refine g_iload (pc := 28) F dX3_clocksAhead_28 rfl ?_
          refine g_aaldK (pc := 30) (q := i) (r := h + 3 + 4 * i) F hk1 hx (by omega) (by omega) dX3_clocksAhead_30 ?_
          refine g_geti (pc := 31) F fl_X3_113 (by assumption) rfl dX3_clocksAhead_31 ?_
          refine g_istore (pc := 34) F dX3_clocksAhead_34 (by decide) rfl ?_
          refine g_iload (pc := 36) F dX3_clocksAhead_36 rfl ?_
          refine g_iload_n (pc := 38) F dX3_clocksAhead_38 rfl ?_
          refine g_icmp_lt (pc := 39) (tgt := 54) F dX3_clocksAhead_39 (by decide) (fun c39 => ?_) (fun c39 => ?_)
          · refine g_iinc (pc := 54) F dX3_clocksAhead_54 rfl rfl (by decide) rfl ?_
            refine g_iinc (pc := 57) F dX3_clocksAhead_57 rfl rfl (by decide) rfl ?_
            refine g_goto (pc := 60) (tgt := 5) F dX3_clocksAhead_60 (by decide) ?_
            refine G.sub [some (.ref (ad g h)), some (.int (nI c)), some (.int (restW S c)), some (.int (aheadW S c (i + 1))), some (.int (x + Int32.ofInt 1)), none] ⟨rfl, rfl, rfl, ?_, rfl, trivial⟩ (ih (i + 1) _ (by omega) (by rw [hx]; exact nI_1 i))
            · show some (Value.int _) = some (Value.int (if restW S i < restW S c ∨ _ then _ else _))
              rw [hC.2.2.2.2.1] at c39
              rw [if_pos (Or.inl c39)]
              rfl
          · refine g_iload (pc := 42) F dX3_clocksAhead_42 rfl ?_
            refine g_iload_n (pc := 44) F dX3_clocksAhead_44 rfl ?_
            refine g_icmp_ne (pc := 45) (tgt := 57) F dX3_clocksAhead_45 (by decide) (fun c45 => ?_) (fun c45 => ?_)
            · refine g_iinc (pc := 57) F dX3_clocksAhead_57 rfl rfl (by decide) rfl ?_
              refine g_goto (pc := 60) (tgt := 5) F dX3_clocksAhead_60 (by decide) ?_
              refine G.sub [some (.ref (ad g h)), some (.int (nI c)), some (.int (restW S c)), some (.int (aheadW S c (i + 1))), some (.int (x + Int32.ofInt 1)), none] ⟨rfl, rfl, rfl, ?_, rfl, trivial⟩ (ih (i + 1) _ (by omega) (by rw [hx]; exact nI_1 i))
              · show some (Value.int _) = some (Value.int (if restW S i < restW S c ∨ _ then _ else _))
                rw [hC.2.2.2.2.1] at c39 c45
                rw [if_neg (fun e => e.elim c39 (fun w => c45 w.1))]
            · refine g_iload (pc := 48) F dX3_clocksAhead_48 rfl ?_
              refine g_iload_n (pc := 50) F dX3_clocksAhead_50 rfl ?_
              refine g_icmp_ge (pc := 51) (tgt := 57) F dX3_clocksAhead_51 (by decide) (fun c51 => ?_) (fun c51 => ?_)
              · refine g_iinc (pc := 57) F dX3_clocksAhead_57 rfl rfl (by decide) rfl ?_
                refine g_goto (pc := 60) (tgt := 5) F dX3_clocksAhead_60 (by decide) ?_
                refine G.sub [some (.ref (ad g h)), some (.int (nI c)), some (.int (restW S c)), some (.int (aheadW S c (i + 1))), some (.int (x + Int32.ofInt 1)), none] ⟨rfl, rfl, rfl, ?_, rfl, trivial⟩ (ih (i + 1) _ (by omega) (by rw [hx]; exact nI_1 i))
                · show some (Value.int _) = some (Value.int (if restW S i < restW S c ∨ _ then _ else _))
                  rw [hC.2.2.2.2.1] at c39 c45
                  rw [if_neg (fun e => e.elim c39 (fun w => by rw [hx] at c51; exact nI_ge w.2 (by omega) c51))]
              · refine g_iinc (pc := 54) F dX3_clocksAhead_54 rfl rfl (by decide) rfl ?_
                refine g_iinc (pc := 57) F dX3_clocksAhead_57 rfl rfl (by decide) rfl ?_
                refine g_goto (pc := 60) (tgt := 5) F dX3_clocksAhead_60 (by decide) ?_
                refine G.sub [some (.ref (ad g h)), some (.int (nI c)), some (.int (restW S c)), some (.int (aheadW S c (i + 1))), some (.int (x + Int32.ofInt 1)), none] ⟨rfl, rfl, rfl, ?_, rfl, trivial⟩ (ih (i + 1) _ (by omega) (by rw [hx]; exact nI_1 i))
                · show some (Value.int _) = some (Value.int (if restW S i < restW S c ∨ _ then _ else _))
                  rw [hC.2.2.2.2.1] at c39 c45
                  rw [if_pos (Or.inr ⟨c45, by rw [hx, nI_leI (by omega) (by omega)] at c51; omega⟩)]
                  rfl
  refine g_iconst (pc := 0) (v := 0) F dX3_clocksAhead_0 (by decide) ?_
  refine g_istore_n (pc := 1) F dX3_clocksAhead_1 (by decide) rfl ?_
  refine g_iconst (pc := 2) (v := 0) F dX3_clocksAhead_2 (by decide) ?_
  refine g_istore (pc := 3) F dX3_clocksAhead_3 (by decide) rfl ?_
  exact L (cn S) 0 _ (by omega) nI_0.symm

set_option maxHeartbeats 4000000 in
set_option maxRecDepth 100000 in
theorem c_X3_clockInPlace (l : Launch) (g : Gm) (M : Mem) (h : Nat) (hk : kd h = 3) (S : SV) (t : Nat) (hr : HR M h S) (hi : Inv S t) (p : Int32) : Cn l yX3_clockInPlace cX3_clockInPlace 3 (some .int) 1 25 g [.ref (ad g h), .int p] M (fun v M2 => v = some (.int (nextW S p (cn S))) ∧ M2 = M) := by
  refine Cn.intro (lv0 := [some (.ref (ad g h)), some (.int p), none]) 1 (by decide +kernel) (Nat.le_of_ble_eq_true rfl) rfl (fun X F r => ?_)
  obtain ⟨hk1, hk2, hkC, hkG⟩ := kd_hall hk
  have hn := hi.cn_le
  have hm := hi.gn_le
  have L : ∀ (n i : Nat) (x : Int32), i + n = cn S → x = nI i → nextW S p (cn S) = nextW S p n → G X g 3 M 2 [some (.ref (ad g h)), some (.int p), some (.int x)] [] := by
    intro n
    induction n with
    | zero =>
      intro i x hin hx hE
      obtain rfl : i = cn S := by omega
      refine g_iload_n (pc := 2) F dX3_clockInPlace_2 rfl ?_
      refine g_aload_n (pc := 3) F dX3_clockInPlace_3 rfl ?_
      refine g_geti (pc := 4) F fl_X3_29 (by assumption) rfl dX3_clockInPlace_4 ?_
      refine g_icmp_ge (pc := 7) (tgt := 45) F dX3_clockInPlace_7 (by decide) (fun c7 => ?_) (fun c7 => ?_)
      · refine g_ldc (pc := 45) F wk_X3_137 dX3_clockInPlace_45 ?_
        refine g_iret (pc := 47) F r dX3_clockInPlace_47 ?_
        have e0 : nextW S p (cn S) = nextW S p 0 := hE
        rw [e0]
        exact ⟨rfl, rfl⟩
      · exact absurd (by rw [hr.1, hn.2, hx]; exact nI_le (by omega) (by omega)) c7
    | succ n ih =>
      intro i x hin hx hE
      have hC := hr.2.2.2.2.1 i (by omega)
      have hkc := hkC i (by omega)
      refine g_iload_n (pc := 2) F dX3_clockInPlace_2 rfl ?_
      refine g_aload_n (pc := 3) F dX3_clockInPlace_3 rfl ?_
      refine g_geti (pc := 4) F fl_X3_29 (by assumption) rfl dX3_clockInPlace_4 ?_
      refine g_icmp_ge (pc := 7) (tgt := 45) F dX3_clockInPlace_7 (by decide) (fun c7 => ?_) (fun c7 => ?_)
      · exact absurd c7 (by rw [hr.1, hn.2, hx]; exact nI_ge (by omega) (by omega))
      · refine g_iload_n (pc := 10) F dX3_clockInPlace_10 rfl ?_
        refine g_aload_n (pc := 11) F dX3_clockInPlace_11 rfl ?_
        refine g_getr (pc := 12) F fl_X3_11 (by assumption) rfl dX3_clockInPlace_12 ?_
        refine g_alenK (pc := 15) F (by assumption) (v := 6) (by decide) dX3_clockInPlace_15 ?_
        refine g_icmp_ge (pc := 16) (tgt := 45) F dX3_clockInPlace_16 (by decide) (fun c16 => ?_) (fun c16 => ?_)
        · exact absurd c16 (by rw [hx]; exact nI_ge (a := i) (b := 6) (by omega) (by decide))
        · refine g_aload_n (pc := 19) F dX3_clockInPlace_19 rfl ?_
          refine g_iload_n (pc := 20) F dX3_clockInPlace_20 rfl ?_
          refine g_aload_n (pc := 21) F dX3_clockInPlace_21 rfl ?_
          refine g_getr (pc := 22) F fl_X3_11 (by assumption) rfl dX3_clockInPlace_22 ?_
          refine g_iload_n (pc := 25) F dX3_clockInPlace_25 rfl ?_
          refine g_aaldK (pc := 26) (q := i) (r := h + 3 + 4 * i) F hk1 hx (by omega) (by omega) dX3_clockInPlace_26 ?_
          refine g_geti (pc := 27) F fl_X3_113 (by assumption) rfl dX3_clockInPlace_27 ?_
          refine g_stk (st' := [.int (restW S i), .int (nI i), .ref (ad g h)]) (by rw [hC.2.2.2.2.1, hx]) ?_
          refine g_callV (pc := 30) (rf2 := 0) (rl2 := 0) F cs_X3_141 (by assumption) rfl (by decide) (by rfl) (by rfl) (Nat.le_of_ble_eq_true (by rfl)) (by decide) dX3_clockInPlace_30 (c_X3_clocksAhead _ g _ h hk S t hr hi i (by omega)) (fun v M2 hz => ?_)
          obtain ⟨rfl, h2⟩ := hz
          rw [h2]
          refine g_iload_n (pc := 33) F dX3_clockInPlace_33 rfl ?_
          refine g_icmp_ne (pc := 34) (tgt := 39) F dX3_clockInPlace_34 (by decide) (fun c34 => ?_) (fun c34 => ?_)
          · refine g_iinc (pc := 39) F dX3_clockInPlace_39 rfl rfl (by decide) rfl ?_
            refine g_goto (pc := 42) (tgt := 2) F dX3_clockInPlace_42 (by decide) ?_
            refine G.sub [some (.ref (ad g h)), some (.int p), some (.int (x + Int32.ofInt 1))] ⟨rfl, rfl, rfl, trivial⟩ (ih (i + 1) _ (by omega) (by rw [hx]; exact nI_1 i) ?_)
            rw [hE]
            show (if aheadW S (cn S - (n + 1)) (cn S) = p then nI (cn S - (n + 1)) else nextW S p n) = nextW S p n
            rw [show cn S - (n + 1) = i by omega, if_neg c34]
          · refine g_iload_n (pc := 37) F dX3_clockInPlace_37 rfl ?_
            refine g_iret (pc := 38) F r dX3_clockInPlace_38 ?_
            rw [hE, show nextW S p (n + 1) = nI i by
              show (if aheadW S (cn S - (n + 1)) (cn S) = p then nI (cn S - (n + 1)) else nextW S p n) = nI i
              rw [show cn S - (n + 1) = i by omega, if_pos c34]]
            exact ⟨by rw [hx], rfl⟩
  refine g_iconst (pc := 0) (v := 0) F dX3_clockInPlace_0 (by decide) ?_
  refine g_istore_n (pc := 1) F dX3_clockInPlace_1 (by decide) rfl ?_
  exact L (cn S) 0 _ (by omega) nI_0.symm rfl

set_option maxHeartbeats 4000000 in
set_option maxRecDepth 100000 in
theorem c_X3_aboutToTell (l : Launch) (g : Gm) (M : Mem) (h : Nat) (hk : kd h = 3) (S : SV) (t : Nat) (hr : HR M h S) (hi : Inv S t) : Cn l yX3_aboutToTell cX3_aboutToTell 3 (some .int) 0 0 g [.ref (ad g h)] M (fun v M2 => v = some (.int (aboutW S (cn S))) ∧ M2 = M) := by
  refine Cn.intro (lv0 := [some (.ref (ad g h)), none, none]) 2 (by decide +kernel) (Nat.le_of_ble_eq_true rfl) rfl (fun X F r => ?_)
  obtain ⟨hk1, hk2, hkC, hkG⟩ := kd_hall hk
  have hn := hi.cn_le
  have hm := hi.gn_le
  have L : ∀ (n i : Nat) (x : Int32), i + n = cn S → x = nI i → G X g 3 M 4 [some (.ref (ad g h)), some (.int (aboutW S i)), some (.int x)] [] := by
    intro n
    induction n with
    | zero =>
      intro i x hin hx
      obtain rfl : i = cn S := by omega
      refine g_iload_n (pc := 4) F dX3_aboutToTell_4 rfl ?_
      refine g_aload_n (pc := 5) F dX3_aboutToTell_5 rfl ?_
      refine g_geti (pc := 6) F fl_X3_29 (by assumption) rfl dX3_aboutToTell_6 ?_
      refine g_icmp_ge (pc := 9) (tgt := 46) F dX3_aboutToTell_9 (by decide) (fun c9 => ?_) (fun c9 => ?_)
      · refine g_iload_n (pc := 46) F dX3_aboutToTell_46 rfl ?_
        refine g_iret (pc := 47) F r dX3_aboutToTell_47 ?_
        exact ⟨rfl, rfl⟩
      · exact absurd (by rw [hr.1, hn.2, hx]; exact nI_le (by omega) (by omega)) c9
    | succ n ih =>
      intro i x hin hx
      have hC := hr.2.2.2.2.1 i (by omega)
      have hkc := hkC i (by omega)
      refine g_iload_n (pc := 4) F dX3_aboutToTell_4 rfl ?_
      refine g_aload_n (pc := 5) F dX3_aboutToTell_5 rfl ?_
      refine g_geti (pc := 6) F fl_X3_29 (by assumption) rfl dX3_aboutToTell_6 ?_
      refine g_icmp_ge (pc := 9) (tgt := 46) F dX3_aboutToTell_9 (by decide) (fun c9 => ?_) (fun c9 => ?_)
      · exact absurd c9 (by rw [hr.1, hn.2, hx]; exact nI_ge (by omega) (by omega))
      · refine g_iload_n (pc := 12) F dX3_aboutToTell_12 rfl ?_
        refine g_aload_n (pc := 13) F dX3_aboutToTell_13 rfl ?_
        refine g_getr (pc := 14) F fl_X3_11 (by assumption) rfl dX3_aboutToTell_14 ?_
        refine g_alenK (pc := 17) F (by assumption) (v := 6) (by decide) dX3_aboutToTell_17 ?_
        refine g_icmp_ge (pc := 18) (tgt := 46) F dX3_aboutToTell_18 (by decide) (fun c18 => ?_) (fun c18 => ?_)
        · exact absurd c18 (by rw [hx]; exact nI_ge (a := i) (b := 6) (by omega) (by decide))
        · refine g_aload_n (pc := 21) F dX3_aboutToTell_21 rfl ?_
          refine g_getr (pc := 22) F fl_X3_11 (by assumption) rfl dX3_aboutToTell_22 ?_
          refine g_iload_n (pc := 25) F dX3_aboutToTell_25 rfl ?_
          refine g_aaldK (pc := 26) (q := i) (r := h + 3 + 4 * i) F hk1 hx (by omega) (by omega) dX3_aboutToTell_26 ?_
          refine g_geti (pc := 27) F fl_X3_113 (by assumption) rfl dX3_aboutToTell_27 ?_
          refine g_iconst (pc := 30) (v := 1) F dX3_aboutToTell_30 (by decide) ?_
          refine g_icmp_ne (pc := 31) (tgt := 40) F dX3_aboutToTell_31 (by decide) (fun c31 => ?_) (fun c31 => ?_)
          · refine g_iinc (pc := 40) F dX3_aboutToTell_40 rfl rfl (by decide) rfl ?_
            refine g_goto (pc := 43) (tgt := 4) F dX3_aboutToTell_43 (by decide) ?_
            refine G.sub [some (.ref (ad g h)), some (.int (aboutW S (i + 1))), some (.int (x + Int32.ofInt 1))] ⟨rfl, ?_, rfl, trivial⟩ (ih (i + 1) _ (by omega) (by rw [hx]; exact nI_1 i))
            · show some (Value.int _) = some (Value.int (if restW S i = 1 then _ else _))
              rw [hC.2.2.2.2.1] at c31
              rw [if_neg c31]
          · refine g_iload_n (pc := 34) F dX3_aboutToTell_34 rfl ?_
            refine g_iconst (pc := 35) (v := 1) F dX3_aboutToTell_35 (by decide) ?_
            refine g_iload_n (pc := 36) F dX3_aboutToTell_36 rfl ?_
            refine g_ishl (pc := 37) F dX3_aboutToTell_37 ?_
            refine g_ior (pc := 38) F dX3_aboutToTell_38 ?_
            refine g_istore_n (pc := 39) F dX3_aboutToTell_39 (by decide) rfl ?_
            refine g_iinc (pc := 40) F dX3_aboutToTell_40 rfl rfl (by decide) rfl ?_
            refine g_goto (pc := 43) (tgt := 4) F dX3_aboutToTell_43 (by decide) ?_
            refine G.sub [some (.ref (ad g h)), some (.int (aboutW S (i + 1))), some (.int (x + Int32.ofInt 1))] ⟨rfl, ?_, rfl, trivial⟩ (ih (i + 1) _ (by omega) (by rw [hx]; exact nI_1 i))
            · show some (Value.int _) = some (Value.int (if restW S i = 1 then _ else _))
              rw [hC.2.2.2.2.1] at c31
              rw [if_pos c31, hx]
  refine g_iconst (pc := 0) (v := 0) F dX3_aboutToTell_0 (by decide) ?_
  refine g_istore_n (pc := 1) F dX3_aboutToTell_1 (by decide) rfl ?_
  refine g_iconst (pc := 2) (v := 0) F dX3_aboutToTell_2 (by decide) ?_
  refine g_istore_n (pc := 3) F dX3_aboutToTell_3 (by decide) rfl ?_
  exact L (cn S) 0 _ (by omega) nI_0.symm

theorem wc_mathmax : Cond.code Lib.Math.max.name Lib.Math.max.code 2 (some .int) ∈ lw_ws := ws_mem 251 (by decide +kernel) rfl
theorem g_mmax {X : XT} {g : Gm} {cc : ByteArray} {nL : Nat} {own : String} {rf rl : Nat} {M : Mem} {pc : Nat} {lv : List (Option Value)} {st : List Value} (F : FX X g cc nL own rf rl) {idx : Nat} {x y : Int32} (w : Cond.methodLink own idx Lib.Math.max.name ∈ lw_ws ∧ Cond.static Lib.Math.max.name ∈ lw_ws ∧ Cond.initialized "java/lang/Math" ∈ lw_ws) (hfr : 1 ≤ rf) (hrl2 : (st.map fun v => v.category).sum + 13 ≤ rl) (hd : decode cc pc = .ok (.invokestatic idx, 3)) (kk : G X g nL M (pc + 3) lv (.int (if x < y then y else x) :: st)) : G X g nL M pc lv (.int y :: .int x :: st) := by
  obtain ⟨p, l, e, R, s, m, args, below, meth, c0, cells, slots, Q⟩ := X
  obtain ⟨⟨hx, hb, hml, hown, hts⟩, hW, hrf, hrl, hcl, hsl, hgb⟩ := F
  intro H locs ls hP hS hL
  exact va_mmax hx hb (hml.trans hL.1.symm) hown (hts _ w.1) (hts _ w.2.1) (hts _ w.2.2) (hts _ wc_mathmax) (by rw [hrf]; exact hfr) (by rw [hrl]; exact hrl2) hcl hsl hd (kk H locs ls hP hS hL)
set_option maxHeartbeats 4000000 in
set_option maxRecDepth 100000 in
theorem c_X3_greatestAge (l : Launch) (g : Gm) (M : Mem) (h : Nat) (hk : kd h = 3) (S : SV) (t : Nat) (hr : HR M h S) (hi : Inv S t) : Cn l yX3_greatestAge cX3_greatestAge 3 (some .int) 1 30 g [.ref (ad g h)] M (fun v M2 => v = some (.int (oldestW S (cn S))) ∧ M2 = M) := by
  refine Cn.intro (lv0 := [some (.ref (ad g h)), none, none]) 2 (by decide +kernel) (Nat.le_of_ble_eq_true rfl) rfl (fun X F r => ?_)
  obtain ⟨hk1, hk2, hkC, hkG⟩ := kd_hall hk
  have hn := hi.cn_le
  have hm := hi.gn_le
  have L : ∀ (n i : Nat) (x : Int32), i + n = cn S → x = nI i → G X g 3 M 5 [some (.ref (ad g h)), some (.int (oldestW S i)), some (.int x)] [] := by
    intro n
    induction n with
    | zero =>
      intro i x hin hx
      obtain rfl : i = cn S := by omega
      refine g_iload_n (pc := 5) F dX3_greatestAge_5 rfl ?_
      refine g_aload_n (pc := 6) F dX3_greatestAge_6 rfl ?_
      refine g_geti (pc := 7) F fl_X3_29 (by assumption) rfl dX3_greatestAge_7 ?_
      refine g_icmp_ge (pc := 10) (tgt := 42) F dX3_greatestAge_10 (by decide) (fun c10 => ?_) (fun c10 => ?_)
      · refine g_iload_n (pc := 42) F dX3_greatestAge_42 rfl ?_
        refine g_iret (pc := 43) F r dX3_greatestAge_43 ?_
        exact ⟨rfl, rfl⟩
      · exact absurd (by rw [hr.1, hn.2, hx]; exact nI_le (by omega) (by omega)) c10
    | succ n ih =>
      intro i x hin hx
      have hC := hr.2.2.2.2.1 i (by omega)
      have hkc := hkC i (by omega)
      refine g_iload_n (pc := 5) F dX3_greatestAge_5 rfl ?_
      refine g_aload_n (pc := 6) F dX3_greatestAge_6 rfl ?_
      refine g_geti (pc := 7) F fl_X3_29 (by assumption) rfl dX3_greatestAge_7 ?_
      refine g_icmp_ge (pc := 10) (tgt := 42) F dX3_greatestAge_10 (by decide) (fun c10 => ?_) (fun c10 => ?_)
      · exact absurd c10 (by rw [hr.1, hn.2, hx]; exact nI_ge (by omega) (by omega))
      · refine g_iload_n (pc := 13) F dX3_greatestAge_13 rfl ?_
        refine g_aload_n (pc := 14) F dX3_greatestAge_14 rfl ?_
        refine g_getr (pc := 15) F fl_X3_11 (by assumption) rfl dX3_greatestAge_15 ?_
        refine g_alenK (pc := 18) F (by assumption) (v := 6) (by decide) dX3_greatestAge_18 ?_
        refine g_icmp_ge (pc := 19) (tgt := 42) F dX3_greatestAge_19 (by decide) (fun c19 => ?_) (fun c19 => ?_)
        · exact absurd c19 (by rw [hx]; exact nI_ge (a := i) (b := 6) (by omega) (by decide))
        · refine g_iload_n (pc := 22) F dX3_greatestAge_22 rfl ?_
          refine g_aload_n (pc := 23) F dX3_greatestAge_23 rfl ?_
          refine g_getr (pc := 24) F fl_X3_11 (by assumption) rfl dX3_greatestAge_24 ?_
          refine g_iload_n (pc := 27) F dX3_greatestAge_27 rfl ?_
          refine g_aaldK (pc := 28) (q := i) (r := h + 3 + 4 * i) F hk1 hx (by omega) (by omega) dX3_greatestAge_28 ?_
          refine g_callV (pc := 29) (rf2 := 0) (rl2 := 0) F cs_X3_149 (by assumption) rfl (by decide) (by rfl) (by rfl) (Nat.le_of_ble_eq_true (by rfl)) (by decide) dX3_greatestAge_29 (c_X0_age _ g _ (h + 3 + 4 * i) hkc) (fun v M2 hz => ?_)
          obtain ⟨rfl, h2⟩ := hz
          rw [h2]
          refine g_mmax (pc := 32) F ⟨wl_X3_152, wt_J9_max_7cf53, wz_J9⟩ (by decide) (Nat.le_of_ble_eq_true (by rfl)) dX3_greatestAge_32 ?_
          refine g_istore_n (pc := 35) F dX3_greatestAge_35 (by decide) rfl ?_
          refine g_iinc (pc := 36) F dX3_greatestAge_36 rfl rfl (by decide) rfl ?_
          refine g_goto (pc := 39) (tgt := 5) F dX3_greatestAge_39 (by decide) ?_
          refine G.sub [some (.ref (ad g h)), some (.int (oldestW S (i + 1))), some (.int (x + Int32.ofInt 1))] ⟨rfl, ?_, rfl, trivial⟩ (ih (i + 1) _ (by omega) (by rw [hx]; exact nI_1 i))
          · show some (Value.int (if _ then _ else _)) = some (Value.int (if oldestW S i < cw S i 7 then _ else _))
            rw [show M (h + 3 + 4 * i) 3 - M (h + 3 + 4 * i) 4 = cw S i 7 by rw [hC.2.2.2.1, hC.2.2.2.2.1, i_sub_sub]]
  refine g_ldc (pc := 0) F wk_X3_137 dX3_greatestAge_0 ?_
  refine g_istore_n (pc := 2) F dX3_greatestAge_2 (by decide) rfl ?_
  refine g_iconst (pc := 3) (v := 0) F dX3_greatestAge_3 (by decide) ?_
  refine g_istore_n (pc := 4) F dX3_greatestAge_4 (by decide) rfl ?_
  exact L (cn S) 0 _ (by omega) nI_0.symm
end
section
/-! the text, and its orders -/
/-- the text's cells: tn signs, tx -/
def TR (M : Mem) (tx : Nat → Int32) (tn : Nat) : Prop := tn ≤ 60 ∧ M 220 1 = nI tn ∧ ∀ j, j < tn → M 221 j = tx j
/-- every sign is 32 to 126 -/
def TI (tx : Nat → Int32) (tn : Nat) : Prop := ∀ j, j < tn → ∃ c, tx j = nI c ∧ 32 ≤ c ∧ c ≤ 126
theorem TR.row {M M2 : Mem} {tx : Nat → Int32} {tn : Nat} (h : TR M tx tn) (e0 : M2 220 = M 220) (e1 : M2 221 = M 221) : TR M2 tx tn := ⟨h.1, by rw [e0]; exact h.2.1, fun j hj => by rw [e1]; exact h.2.2 j hj⟩
theorem kd220 : kd 220 = 6 := by decide
theorem kd221 : kd 221 = 14 := by decide
theorem kd222 : kd 222 = 5 := by decide
theorem kd223 : kd 223 = 10 := by decide
end
section
/-! every call leaves a state; what it answers is not below 0 just where it changes something -/
def InvE (S : SV) : Prop := ∃ t, t ≤ 99999 ∧ Inv S t
def okR (S : SV) (r : Int32 × SV) : Prop := InvE r.2 ∧ (¬ r.1 < 0 ∨ (r.1 < 0 ∧ r.2 = S))
theorem CI_congr2 {w w' : Nat → Int32} {t : Nat} (h : CI w t) (e : ∀ j, j < 11 → w' j = w j) : CI w' t := by
  obtain ⟨la, a, b, c, d, p, gp, ag, sm, sq, hL, h5, hp, h6, g1, g2, h7, ha, h9, hs, h10, hq⟩ := h
  exact ⟨la, a, b, c, d, p, gp, ag, sm, sq, LI_congr hL (fun j hj => e j (by omega)), by rw [e 5 (by decide)]; exact h5, hp, by rw [e 6 (by decide)]; exact h6, g1, g2, by rw [e 7 (by decide)]; exact h7, ha, by rw [e 9 (by decide)]; exact h9, hs, by rw [e 10 (by decide)]; exact h10, TP_congr hq (e 8 (by decide))⟩
theorem Inv_setC {S : SV} {t i : Nat} {w : Nat → Int32} (h : Inv S t) (hi : i < cn S) (hw : CI w t) : Inv (setC S i w) t := by
  have hn := h.cn_le.1
  obtain ⟨h0, h1, h2, h3, h4, h5, h6⟩ := h
  have ec : cn (setC S i w) = cn S := by unfold cn; rw [setC_lo _ _ _ (by decide)]
  have eg : gn (setC S i w) = gn S := by unfold gn; rw [setC_lo _ _ _ (by decide)]
  refine ⟨?_, ?_, ?_, h3, ?_, ?_, ?_⟩
  · rw [setC_lo _ _ _ (by decide)]; exact h0
  · rw [setC_lo _ _ _ (by decide)]; exact h1
  · rw [setC_lo _ _ _ (by decide)]; exact h2
  · rw [setC_lo _ _ _ (by decide)]; exact h4
  · rw [ec]
    intro k hk
    by_cases hki : k = i
    · subst hki
      exact CI_congr hw (fun j hj => cw_setC _ _ _ hj)
    · exact CI_congr (h5 k hk) (fun j hj => cw_setC_ne _ _ hj hki)
  · rw [eg]
    intro k hk
    exact GI_congr (h6 k hk) (fun j hj => gw_setC _ _ (by omega) _ _)
theorem Inv_x {S : SV} {t x : Nat} (h : Inv S t) (hx : x < 10000) : Inv (upd S 3 (nI x)) t := by
  obtain ⟨h0, h1, h2, h3, h4, h5, h6⟩ := h
  have ec : cn (upd S 3 (nI x)) = cn S := by unfold cn; rw [upd_ne _ _ (by decide)]
  have eg : gn (upd S 3 (nI x)) = gn S := by unfold gn; rw [upd_ne _ _ (by decide)]
  refine ⟨by rw [upd_ne _ _ (by decide)]; exact h0, by rw [upd_ne _ _ (by decide)]; exact h1, by rw [upd_ne _ _ (by decide)]; exact h2, h3, ⟨x, hx, upd_self _ _ _⟩, ?_, ?_⟩
  · rw [ec]
    intro k hk
    rw [cw_upd_lo _ _ _ (by decide)]
    exact h5 k hk
  · rw [eg]
    intro k hk
    rw [gw_upd_lo _ _ _ (by decide)]
    exact h6 k hk
theorem Inv_setGr {S : SV} {t i : Nat} {w : Nat → Int32} (h : Inv S t) (hi : i < gn S) (hw : GI w t) : Inv (setGr S i w) t := by
  have hn := h.cn_le.1
  obtain ⟨h0, h1, h2, h3, h4, h5, h6⟩ := h
  have ec : cn (setGr S i w) = cn S := by unfold cn; rw [setGr_lo _ _ _ (by decide)]
  have eg : gn (setGr S i w) = gn S := by unfold gn; rw [setGr_lo _ _ _ (by decide)]
  refine ⟨?_, ?_, ?_, h3, ?_, ?_, ?_⟩
  · rw [setGr_lo _ _ _ (by decide)]; exact h0
  · rw [setGr_lo _ _ _ (by decide)]; exact h1
  · rw [setGr_lo _ _ _ (by decide)]; exact h2
  · rw [setGr_lo _ _ _ (by decide)]; exact h4
  · rw [ec]
    intro k hk
    exact CI_congr (h5 k hk) (fun j hj => cw_setGr _ _ _ (by omega) hj)
  · rw [eg]
    intro k hk
    by_cases hki : k = i
    · subst hki
      exact GI_congr hw (fun j hj => gw_setGr _ _ _ hj)
    · exact GI_congr (h6 k hk) (fun j hj => gw_setGr_ne _ _ hj hki)
theorem Inv_beg {S : SV} {t i : Nat} (h : Inv S t) (hi : i < cn S) : Inv (beg S i (cw S i 5 + 1)) t := by
  obtain ⟨x, hx, hx3⟩ := h.2.2.2.2.1
  obtain ⟨la, a, b, c, d, p, gp, ag, sm, sq, hL, h5, hp, h6, g1, g2, h7, ha, h9, hs, h10, hq⟩ := h.2.2.2.2.2.1 i hi
  have hP := NP_bound (la := la) (b := b) (c := c) (d := d) (hL.2.2.2.2.2.2.2.2.1)
  unfold beg
  rw [hx3]
  obtain ⟨x', q1, q2⟩ := bx_nI (w := cw S i) hx
  rw [q2]
  refine Inv_x (Inv_setC h hi ?_) q1
  rw [h5, nI_1]
  exact CI_bw hL hx (by omega) h9 (by omega) h10 hq
theorem nI_nneg {n : Nat} (h : n < 2147483648) : ¬ nI n < 0 := nI_pos h
theorem m1_neg : (-1000001 : Int32) < 0 ∧ (-1000002 : Int32) < 0 ∧ (-1000003 : Int32) < 0 ∧ (-1000004 : Int32) < 0 := by decide
theorem ok_no {S : SV} {t : Nat} (hi : Inv S t) (ht : t ≤ 99999) {v : Int32} (hv : v < 0) : okR S (v, S) := ⟨⟨t, ht, hi⟩, Or.inr ⟨hv, rfl⟩⟩
theorem ok_wind {S : SV} {t : Nat} (hi : Inv S t) (ht : t ≤ 99999) (x : Int32) : okR S (oWind S x) := by
  unfold oWind
  by_cases hc : inC S x
  · rw [if_pos hc]
    obtain ⟨i, h1, rfl⟩ := inC_ex hi hc
    have hn := hi.cn_le.1
    rw [ixN_nI (by omega)]
    have hB := Inv_beg hi h1
    have hcb : cn (beg S i (cw S i 5 + 1)) = cn S := cn_beg _ _ _
    have hCI := hB.2.2.2.2.2.1 i (by omega)
    have hW : Inv (wnd S i) t := by
      unfold wnd
      exact Inv_setC hB (by omega) (CI_congr2 hCI (fun j hj => upd_ne _ _ (by omega)))
    refine ⟨⟨t, ht, hW⟩, Or.inl ?_⟩
    obtain ⟨la, a, b, c, d, p, gp, ag, sm, sq, hL, h5, hp, h6, g1, g2, -⟩ := hW.2.2.2.2.2.1 i (by
      unfold wnd cn
      rw [setC_lo _ _ _ (by decide)]
      unfold cn at hcb
      rw [hcb]
      exact h1)
    show ¬ cw (wnd S i) i 6 < 0
    rw [h6]
    exact nI_nneg (by omega)
  · rw [if_neg hc]
    exact ok_no hi ht m1_neg.1
theorem ok_pass {S : SV} {t : Nat} (hi : Inv S t) (ht : t ≤ 99999) (x : Int32) : okR S (oPass S x) := by
  unfold oPass
  by_cases hc : inC S x
  · rw [if_pos hc]
    obtain ⟨i, h1, rfl⟩ := inC_ex hi hc
    have hn := hi.cn_le.1
    rw [ixN_nI (by omega)]
    have hCI := hi.2.2.2.2.2.1 i h1
    refine ⟨⟨t, ht, Inv_setC hi h1 (CI_congr2 hCI (fun j hj => by rw [upd_ne _ _ (by omega), upd_ne _ _ (by omega)]))⟩, Or.inl ?_⟩
    obtain ⟨la, a, b, c, d, p, gp, ag, sm, sq, hL, h5, hp, h6, g1, g2, h7, ha, -⟩ := hCI
    show ¬ cw S i 6 - cw S i 7 < 0
    rw [h6, h7, nI_sub (by omega)]
    exact nI_nneg (by omega)
  · rw [if_neg hc]
    exact ok_no hi ht m1_neg.1
theorem endsN_num {S : SV} {t : Nat} (hi : Inv S t) : ∀ k, t + k ≤ 100200 → ∃ q, q ≤ 6 * k ∧ (endsN S k).1 = nI q := by
  intro k
  induction k with
  | zero => intro _; exact ⟨0, by decide, nI0⟩
  | succ k ih =>
    intro hk
    obtain ⟨q, h1, h2⟩ := ih (by omega)
    obtain ⟨z, h3, h4⟩ := endsZ_nI (endsN_inv hi k (by omega))
    have := pop6_le z h3
    refine ⟨q + pop6 z, by omega, ?_⟩
    show (endsN S k).1 + jbc (endsZ (endsN S k).2) = _
    rw [h2, h4, jbc_nI z h3, nI_add]
theorem ok_tick {S : SV} {t : Nat} (hi : Inv S t) (ht : t ≤ 99999) (k : Int32) : okR S (oTick S k) := by
  unfold oTick
  by_cases hp : ticksP k
  · rw [if_pos hp]
    obtain ⟨n, h1, h2, rfl⟩ := ticksP_nI hp
    by_cases hl : S 2 + nI n ≤ 99999
    · rw [if_pos hl, ixN_nI (by omega)]
      rw [hi.2.2.1, nI_add] at hl
      have hl2 : t + n ≤ 99999 := (nI_leI (b := 99999) (by omega) (by decide)).mp hl
      obtain ⟨q, q1, q2⟩ := endsN_num hi n (by omega)
      exact ⟨⟨t + n, hl2, endsN_inv hi n (by omega)⟩, Or.inl (by rw [q2]; exact nI_nneg (by omega))⟩
    · rw [if_neg hl]
      exact ok_no hi ht m1_neg.2.2.1
  · rw [if_neg hp]
    exact ok_no hi ht m1_neg.1
theorem Inv_addC {S : SV} {t : Nat} {la a b c d : Int32} (hi : Inv S t) (hn : cn S < 6) (hp : clockP la a b c d) : Inv (addC S la a b c d) t := by
  obtain ⟨l', a', b', c', d', hL⟩ := clockP_LI (p := -1) hp
  obtain ⟨x, hx, hx3⟩ := hi.2.2.2.2.1
  obtain ⟨k1, k2, k3, k4⟩ := addC_cw (S := S) hL hx3 hx
  have hn6 := hi.cn_le
  have hm := hi.gn_le
  have e0 : addC S la a b c d 0 = nI (cn S + 1) := by rw [addC_lo _ _ _ _ _ _ (by decide), if_pos rfl, hn6.2, nI_1]
  have e1 : addC S la a b c d 1 = S 1 := by rw [addC_lo _ _ _ _ _ _ (by decide), if_neg (by decide)]
  have e2 : addC S la a b c d 2 = S 2 := by rw [addC_lo _ _ _ _ _ _ (by decide), if_neg (by decide)]
  have ec : cn (addC S la a b c d) = cn S + 1 := cn_of e0 (by omega)
  have eg : gn (addC S la a b c d) = gn S := by unfold gn; rw [e1]
  have e51 : w0 la a b c d (-1) 5 + 1 = nI 0 := by
    show (-1 : Int32) + 1 = nI 0
    decide
  obtain ⟨x', q1, q2⟩ := bx_nI (w := w0 la a b c d (-1)) hx
  refine ⟨⟨cn S + 1, by omega, e0⟩, ⟨gn S, hm.1, by rw [e1]; exact hm.2⟩, by rw [e2]; exact hi.2.2.1, hi.2.2.2.1, ⟨x', q1, by rw [k2, hx3]; exact q2⟩, ?_, ?_⟩
  · rw [ec]
    intro i hi'
    by_cases hin : i = cn S
    · subst hin
      refine CI_congr (w := bw (w0 la a b c d (-1)) (nI x) (nI 0)) (CI_bw (sm := 0) (sq := 0) hL hx (by decide) nI0 (Nat.zero_le _) nI0 ⟨Nat.zero_le _, 0, nI0, Nat.le_refl _, Nat.le_refl _⟩) (fun j hj => ?_)
      rw [k1 j hj, hx3, e51]
    · exact CI_congr (hi.2.2.2.2.2.1 i (by omega)) (fun j hj => k3 i hin j hj)
  · rw [eg]
    intro i hi'
    exact GI_congr (hi.2.2.2.2.2.2 i hi') (fun j hj => k4 hn i j)
theorem ok_clock {S : SV} {t : Nat} (hi : Inv S t) (ht : t ≤ 99999) (la a b c d : Int32) : okR S (oClock S la a b c d) := by
  unfold oClock
  have hn := hi.cn_le
  by_cases hp : clockP la a b c d
  · rw [if_pos hp]
    by_cases h6 : S 0 = 6
    · rw [if_pos h6]
      exact ok_no hi ht m1_neg.2.2.1
    · rw [if_neg h6]
      have hn6 : cn S < 6 := by
        rcases Nat.lt_or_ge (cn S) 6 with q | q
        · exact q
        · exfalso
          have : cn S = 6 := by omega
          rw [hn.2, this] at h6
          exact h6 rfl
      refine ⟨⟨t, ht, Inv_addC hi hn6 hp⟩, Or.inl ?_⟩
      show ¬ S 0 < 0
      rw [hn.2]
      exact nI_nneg (by omega)
  · rw [if_neg hp]
    exact ok_no hi ht m1_neg.1
theorem ok_group {S : SV} {t : Nat} (hi : Inv S t) (ht : t ≤ 99999) (la : Int32) : okR S (oGroup S la) := by
  unfold oGroup
  have hm := hi.gn_le
  have hn := hi.cn_le
  by_cases hp : lawP la
  · rw [if_pos hp]
    by_cases h6 : S 1 = 4
    · rw [if_pos h6]
      exact ok_no hi ht m1_neg.2.2.1
    · rw [if_neg h6]
      have hm4 : gn S < 4 := by
        rcases Nat.lt_or_ge (gn S) 4 with q | q
        · exact q
        · exfalso
          have : gn S = 4 := by omega
          rw [hm.2, this] at h6
          exact h6 rfl
      have lo : ∀ k, k < 4 → upd (setGr S (gn S) (g0 la)) 1 (S 1 + 1) k = if k = 1 then S 1 + 1 else S k := by
        intro k hk
        rw [upd_get]
        by_cases h1 : k = 1
        · rw [if_pos h1, if_pos h1]
        · rw [if_neg h1, if_neg h1, setGr_lo _ _ _ hk]
      have e1 : upd (setGr S (gn S) (g0 la)) 1 (S 1 + 1) 1 = nI (gn S + 1) := by rw [upd_self, hm.2, nI_1]
      have ec : cn (upd (setGr S (gn S) (g0 la)) 1 (S 1 + 1)) = cn S := by unfold cn; rw [lo 0 (by decide), if_neg (by decide)]
      have eg : gn (upd (setGr S (gn S) (g0 la)) 1 (S 1 + 1)) = gn S + 1 := gn_of e1 (by omega)
      show InvE (upd (setGr S (gn S) (g0 la)) 1 (S 1 + 1)) ∧ _
      refine ⟨⟨t, ht, ⟨cn S, hn.1, ?_⟩, ⟨gn S + 1, by omega, e1⟩, ?_, hi.2.2.2.1, ?_, ?_, ?_⟩, Or.inl ?_⟩
      · rw [lo 0 (by decide), if_neg (by decide)]; exact hn.2
      · rw [lo 2 (by decide), if_neg (by decide)]; exact hi.2.2.1
      · rw [lo 3 (by decide), if_neg (by decide)]; exact hi.2.2.2.2.1
      · rw [ec]
        intro k hk
        rw [cw_upd_lo _ _ _ (by decide)]
        exact CI_congr (hi.2.2.2.2.2.1 k hk) (fun j hj => cw_setGr _ _ _ (by omega) hj)
      · rw [eg]
        intro k hk
        rw [gw_upd_lo _ _ _ (by decide)]
        by_cases hki : k = gn S
        · subst hki
          obtain ⟨la', l1, rfl⟩ := lawP_nI hp
          exact GI_congr (r := g0 (nI la')) ⟨la', 0, 0, rfl, l1, nI0, by decide, by decide, nI0, Nat.zero_le _⟩ (fun j hj => gw_setGr _ _ _ hj)
        · exact GI_congr (hi.2.2.2.2.2.2 k (by omega)) (fun j hj => gw_setGr_ne _ _ hj hki)
      · show ¬ S 1 < 0
        rw [hm.2]
        exact nI_nneg (by omega)
  · rw [if_neg hp]
    exact ok_no hi ht m1_neg.1
theorem bit_or : ∀ z, z < 64 → ∀ i, i < 6 → nI z ||| (1 <<< (nI i &&& 31)) = nI (z ||| 2 ^ i) ∧ z ||| 2 ^ i < 64 ∧ pop6 (z ||| 2 ^ i) ≤ pop6 z + 1 := by decide +kernel
theorem bit_off : ∀ z, z < 64 → ∀ i, i < 6 → nI z &&& ((1 <<< (nI i &&& 31)) ^^^ -1) = nI (z &&& (63 - 2 ^ i)) ∧ z &&& (63 - 2 ^ i) < 64 ∧ pop6 (z &&& (63 - 2 ^ i)) ≤ pop6 z := by decide +kernel
theorem GI_mem {r : Nat → Int32} {t z : Nat} (h : GI r t) (hz : z < 64) (hp : pop6 z ≤ 4) : GI (upd r 1 (nI z)) t := by
  obtain ⟨la, y, mt, h0, h1, h2, h3, h4, h5, h6⟩ := h
  exact ⟨la, z, mt, by rw [upd_ne _ _ (by decide)]; exact h0, h1, upd_self _ _ _, hz, hp, by rw [upd_ne _ _ (by decide)]; exact h5, h6⟩
theorem ok_join {S : SV} {t : Nat} (hi : Inv S t) (ht : t ≤ 99999) (gx x : Int32) : okR S (oJoin S gx x) := by
  unfold oJoin
  by_cases hc : inG S gx ∧ inC S x
  · rw [if_pos hc]
    obtain ⟨gi, h1, rfl⟩ := inG_ex hi hc.1
    obtain ⟨i, h2, rfl⟩ := inC_ex hi hc.2
    have hn := hi.cn_le.1
    have hm := hi.gn_le.1
    rw [ixN_nI (by omega), ixN_nI (by omega)]
    by_cases hb : cw S i 0 ≠ gw S gi 0 ∨ isIn (gw S gi 1) i
    · rw [if_pos hb]
      exact ok_no hi ht m1_neg.2.1
    · rw [if_neg hb]
      by_cases h4 : jbc (gw S gi 1) < 4
      · rw [if_pos h4]
        have hG := hi.2.2.2.2.2.2 gi h1
        obtain ⟨la, z, mt, q0, q1, q2, q3, q4, q5, q6⟩ := id hG
        obtain ⟨b1, b2, b3⟩ := bit_or z q3 i (by omega)
        rw [q2, jbc_nI z q3] at h4
        have h44 : pop6 z < 4 := (nI_ltI (b := 4) (by omega) (by decide)).mp h4
        rw [q2, b1, jbc_nI _ b2]
        exact ⟨⟨t, ht, Inv_setGr hi h1 (GI_mem hG b2 (by omega))⟩, Or.inl (nI_nneg (by omega))⟩
      · rw [if_neg h4]
        exact ok_no hi ht m1_neg.2.2.1
  · rw [if_neg hc]
    exact ok_no hi ht m1_neg.1
theorem ok_leave {S : SV} {t : Nat} (hi : Inv S t) (ht : t ≤ 99999) (gx x : Int32) : okR S (oLeave S gx x) := by
  unfold oLeave
  by_cases hc : inG S gx ∧ inC S x
  · rw [if_pos hc]
    obtain ⟨gi, h1, rfl⟩ := inG_ex hi hc.1
    obtain ⟨i, h2, rfl⟩ := inC_ex hi hc.2
    have hn := hi.cn_le.1
    have hm := hi.gn_le.1
    rw [ixN_nI (by omega), ixN_nI (by omega)]
    by_cases hb : isIn (gw S gi 1) i
    · rw [if_pos hb]
      have hG := hi.2.2.2.2.2.2 gi h1
      obtain ⟨la, z, mt, q0, q1, q2, q3, q4, q5, q6⟩ := id hG
      obtain ⟨b1, b2, b3⟩ := bit_off z q3 i (by omega)
      rw [q2, b1, jbc_nI _ b2]
      exact ⟨⟨t, ht, Inv_setGr hi h1 (GI_mem hG b2 (by omega))⟩, Or.inl (nI_nneg (by omega))⟩
    · rw [if_neg hb]
      exact ok_no hi ht m1_neg.2.1
  · rw [if_neg hc]
    exact ok_no hi ht m1_neg.1
end
section
/-! the history: five halls, in the order of the slots -/
def slotsR (M : Mem) (sg : Nat → Nat) : Prop := (∀ k, k < 5 → M 64 k = nI (sg k) ∧ sg k < 5) ∧ ∀ i j, i < 5 → j < 5 → sg i = sg j → i = j
abbrev slH (sg : Nat → Nat) (k : Nat) : Nat := 65 + 31 * sg k
theorem slH_ge (sg : Nat → Nat) (k : Nat) : 65 ≤ slH sg k := Nat.le_add_right _ _
theorem kd63 : kd 63 = 4 := by decide
theorem kd64 : kd 64 = 17 := by decide
theorem kd1 : kd 1 = 3 := by decide
theorem kd32 : kd 32 = 3 := by decide
theorem kd0 : kd 0 = 7 := by decide
theorem kdSl : ∀ j, j < 5 → kd (65 + 31 * j) = 3 := by decide
set_option maxHeartbeats 4000000 in
set_option maxRecDepth 100000 in
theorem c_X4_note (l : Launch) (g : Gm) (M : Mem) (sg : Nat → Nat) (hs : slotsR M sg) (n : Nat) (hn4 : n ≤ 4) (hn : M 63 1 = nI n) (S : SV) (t : Nat) (hr : HR M 1 S) (hi : Inv S t) : Cn l yX4_note cX4_note 2 none 3 83 g [.ref (ad g 63), .ref (ad g 1)] M (fun v M2 => v = none ∧ HR M2 (slH sg n) S ∧ frH M M2 (slH sg n)) := by
  refine Cn.intro (lv0 := [some (.ref (ad g 63)), some (.ref (ad g 1))]) 0 (by decide +kernel) (Nat.le_of_ble_eq_true rfl) rfl (fun X F r => ?_)
  have k63 := kd63
  have k64 := kd64
  have k1 := kd1
  refine g_aload_n (pc := 0) F dX4_note_0 rfl ?_
  refine g_geti (pc := 1) F fl_X4_18 (by assumption) rfl dX4_note_1 ?_
  refine g_if_lt (pc := 4) (tgt := 32) F dX4_note_4 (by decide) (fun c4 => ?_) (fun c4 => ?_)
  · exact absurd c4 (by rw [hn]; exact nI_pos (by omega))
  · refine g_aload_n (pc := 7) F dX4_note_7 rfl ?_
    refine g_geti (pc := 8) F fl_X4_18 (by assumption) rfl dX4_note_8 ?_
    refine g_aload_n (pc := 11) F dX4_note_11 rfl ?_
    refine g_getr (pc := 12) F fl_X4_11 (by assumption) rfl dX4_note_12 ?_
    refine g_alenS (pc := 15) F (by assumption) (v := 5) (by decide) dX4_note_15 ?_
    refine g_icmp_ge (pc := 16) (tgt := 32) F dX4_note_16 (by decide) (fun c16 => ?_) (fun c16 => ?_)
    · exact absurd c16 (by rw [hn]; exact nI_ge (a := n) (b := 5) (by omega) (by decide))
    · refine g_aload_n (pc := 19) F dX4_note_19 rfl ?_
      refine g_getr (pc := 20) F fl_X4_11 (by assumption) rfl dX4_note_20 ?_
      refine g_aload_n (pc := 23) F dX4_note_23 rfl ?_
      refine g_geti (pc := 24) F fl_X4_18 (by assumption) rfl dX4_note_24 ?_
      refine g_aaldS (pc := 27) (q := n) (r := slH sg n) F k64 hn (by omega) (by rw [(hs.1 n (by omega)).1, nI_clamp (by have := (hs.1 n (by omega)).2; omega)]) dX4_note_27 ?_
      refine g_aload_n (pc := 28) F dX4_note_28 rfl ?_
      refine g_callV (pc := 29) (rf2 := 2) (rl2 := 61) F cs_X4_22 (kdSl _ (hs.1 n (by omega)).2) rfl (by decide) (by rfl) (by rfl) (Nat.le_of_ble_eq_true (by rfl)) (by decide) dX4_note_29 (c_X3_copyFrom _ g _ (slH sg n) 1 (kdSl _ (hs.1 n (by omega)).2) k1 (Or.inr (by show 1 + 31 ≤ 65 + 31 * sg n; omega)) S t hr hi) (fun v M2 hz => ?_)
      obtain ⟨rfl, z1, z2⟩ := hz
      refine g_vret (pc := 32) F r dX4_note_32 ?_
      exact ⟨rfl, z1, z2⟩

/-- one state more is kept; the oldest slot comes behind if there are five -/
def keepM (M : Mem) (n : Nat) : Mem := if n < 4 then upd2 M 63 1 (nI (n + 1)) else updr (upd2 M 63 1 (nI 4)) 64 (fun k => if k < 4 then M 64 (k + 1) else if k = 4 then M 64 0 else M 64 k)
set_option maxHeartbeats 4000000 in
set_option maxRecDepth 100000 in
theorem c_X4_keep (l : Launch) (g : Gm) (M : Mem) (sg : Nat → Nat) (hs : slotsR M sg) (n : Nat) (hn4 : n ≤ 4) (hn : M 63 1 = nI n) : Cn l yX4_keep cX4_keep 3 none 0 0 g [.ref (ad g 63)] M (fun v M2 => v = none ∧ M2 = keepM M n) := by
  refine Cn.intro (lv0 := [some (.ref (ad g 63)), none, none]) 2 (by decide +kernel) (Nat.le_of_ble_eq_true rfl) rfl (fun X F r => ?_)
  have k63 := kd63
  have k64 := kd64
  have k1 := kd1
  refine g_aload_n (pc := 0) F dX4_keep_0 rfl ?_
  refine g_dup (pc := 1) F dX4_keep_1 rfl ?_
  refine g_geti (pc := 2) F fl_X4_18 (by assumption) rfl dX4_keep_2 ?_
  refine g_iconst (pc := 5) (v := 1) F dX4_keep_5 (by decide) ?_
  refine g_iadd (pc := 6) F dX4_keep_6 ?_
  refine g_puti (pc := 7) F fl_X4_18 rfl rfl (by assumption) rfl dX4_keep_7 ?_
  refine g_aload_n (pc := 10) F dX4_keep_10 rfl ?_
  refine g_geti (pc := 11) F fl_X4_18 (by assumption) rfl dX4_keep_11 ?_
  refine g_iconst (pc := 14) (v := 4) F dX4_keep_14 (by decide) ?_
  refine g_icmp_gt (pc := 15) (tgt := 19) F dX4_keep_15 (by decide) (fun c15 => ?_) (fun c15 => ?_)
  · have h4 : n = 4 := by
      rw [upd2_self, hn, nI_1] at c15
      have := (nI_ltI (a := 4) (by decide) (by omega)).mp c15
      omega
    refine g_aload_n (pc := 19) F dX4_keep_19 rfl ?_
    refine g_iconst (pc := 20) (v := 4) F dX4_keep_20 (by decide) ?_
    refine g_puti (pc := 21) F fl_X4_18 rfl rfl (by assumption) rfl dX4_keep_21 ?_
    refine g_aload_n (pc := 24) F dX4_keep_24 rfl ?_
    refine g_getr (pc := 25) F fl_X4_11 (by assumption) rfl dX4_keep_25 ?_
    refine g_iconst (pc := 28) (v := 0) F dX4_keep_28 (by decide) ?_
    refine g_aaldS (pc := 29) (q := 0) (r := slH sg 0) F k64 (by decide) (by decide) (by rw [upd2_k _ _ _ (by decide), upd2_k _ _ _ (by decide), (hs.1 0 (by decide)).1, nI_clamp (by have := (hs.1 0 (by decide)).2; omega)]) dX4_keep_29 ?_
    refine g_astore_n (pc := 30) F dX4_keep_30 (by decide) rfl ?_
    refine g_iconst (pc := 31) (v := 1) F dX4_keep_31 (by decide) ?_
    refine g_istore_n (pc := 32) F dX4_keep_32 (by decide) rfl ?_
    have hA1 : (upd2 (upd2 M 63 1 (M 63 1 + 1)) 63 1 4) 64 1 = nI (sg 1) := by
      simp only [upd2_get]
      simp [(hs.1 1 (by decide)).1]
    refine g_iload_n (pc := 33) F dX4_keep_33 rfl ?_
    refine g_aload_n (pc := 34) F dX4_keep_34 rfl ?_
    refine g_getr (pc := 35) F fl_X4_11 (by assumption) rfl dX4_keep_35 ?_
    refine g_alenS (pc := 38) F (by assumption) (v := 5) (by decide) dX4_keep_38 ?_
    refine g_icmp_ge (pc := 39) (tgt := 62) F dX4_keep_39 (by decide) (fun c39 => ?_) (fun c39 => ?_)
    · exact absurd c39 (by decide)
    · refine g_aload_n (pc := 42) F dX4_keep_42 rfl ?_
      refine g_getr (pc := 43) F fl_X4_11 (by assumption) rfl dX4_keep_43 ?_
      refine g_iload_n (pc := 46) F dX4_keep_46 rfl ?_
      refine g_iconst (pc := 47) (v := 1) F dX4_keep_47 (by decide) ?_
      refine g_isub (pc := 48) F dX4_keep_48 ?_
      refine g_stk (st' := [.int (nI 0), .ref (ad g 64)]) rfl ?_
      refine g_aload_n (pc := 49) F dX4_keep_49 rfl ?_
      refine g_getr (pc := 50) F fl_X4_11 (by assumption) rfl dX4_keep_50 ?_
      refine g_iload_n (pc := 53) F dX4_keep_53 rfl ?_
      refine g_aaldS (pc := 54) (q := 1) (r := slH sg 1) F k64 (by decide) (by decide) (by rw [hA1, nI_clamp (by have := (hs.1 1 (by decide)).2; omega)]) dX4_keep_54 ?_
      refine g_aastS (pc := 55) (q := sg 1) (i0 := 0) F k64 rfl (by decide) (hs.1 1 (by decide)).2 dX4_keep_55 ?_
      refine g_iinc (pc := 56) F dX4_keep_56 rfl rfl (by decide) rfl ?_
      refine g_goto (pc := 59) (tgt := 33) F dX4_keep_59 (by decide) ?_
      refine G.sub [some (.ref (ad g 63)), some (.ref (ad g (slH sg 0))), some (.int 2)] ⟨rfl, rfl, rfl, trivial⟩ ?_
      have hA2 : (upd2 (upd2 (upd2 M 63 1 (M 63 1 + 1)) 63 1 4) 64 0 (nI (sg 1))) 64 2 = nI (sg 2) := by
        simp only [upd2_get]
        simp [(hs.1 2 (by decide)).1]
      refine g_iload_n (pc := 33) F dX4_keep_33 rfl ?_
      refine g_aload_n (pc := 34) F dX4_keep_34 rfl ?_
      refine g_getr (pc := 35) F fl_X4_11 (by assumption) rfl dX4_keep_35 ?_
      refine g_alenS (pc := 38) F (by assumption) (v := 5) (by decide) dX4_keep_38 ?_
      refine g_icmp_ge (pc := 39) (tgt := 62) F dX4_keep_39 (by decide) (fun c39 => ?_) (fun c39 => ?_)
      · exact absurd c39 (by decide)
      · refine g_aload_n (pc := 42) F dX4_keep_42 rfl ?_
        refine g_getr (pc := 43) F fl_X4_11 (by assumption) rfl dX4_keep_43 ?_
        refine g_iload_n (pc := 46) F dX4_keep_46 rfl ?_
        refine g_iconst (pc := 47) (v := 1) F dX4_keep_47 (by decide) ?_
        refine g_isub (pc := 48) F dX4_keep_48 ?_
        refine g_stk (st' := [.int (nI 1), .ref (ad g 64)]) rfl ?_
        refine g_aload_n (pc := 49) F dX4_keep_49 rfl ?_
        refine g_getr (pc := 50) F fl_X4_11 (by assumption) rfl dX4_keep_50 ?_
        refine g_iload_n (pc := 53) F dX4_keep_53 rfl ?_
        refine g_aaldS (pc := 54) (q := 2) (r := slH sg 2) F k64 (by decide) (by decide) (by rw [hA2, nI_clamp (by have := (hs.1 2 (by decide)).2; omega)]) dX4_keep_54 ?_
        refine g_aastS (pc := 55) (q := sg 2) (i0 := 1) F k64 rfl (by decide) (hs.1 2 (by decide)).2 dX4_keep_55 ?_
        refine g_iinc (pc := 56) F dX4_keep_56 rfl rfl (by decide) rfl ?_
        refine g_goto (pc := 59) (tgt := 33) F dX4_keep_59 (by decide) ?_
        refine G.sub [some (.ref (ad g 63)), some (.ref (ad g (slH sg 0))), some (.int 3)] ⟨rfl, rfl, rfl, trivial⟩ ?_
        have hA3 : (upd2 (upd2 (upd2 (upd2 M 63 1 (M 63 1 + 1)) 63 1 4) 64 0 (nI (sg 1))) 64 1 (nI (sg 2))) 64 3 = nI (sg 3) := by
          simp only [upd2_get]
          simp [(hs.1 3 (by decide)).1]
        refine g_iload_n (pc := 33) F dX4_keep_33 rfl ?_
        refine g_aload_n (pc := 34) F dX4_keep_34 rfl ?_
        refine g_getr (pc := 35) F fl_X4_11 (by assumption) rfl dX4_keep_35 ?_
        refine g_alenS (pc := 38) F (by assumption) (v := 5) (by decide) dX4_keep_38 ?_
        refine g_icmp_ge (pc := 39) (tgt := 62) F dX4_keep_39 (by decide) (fun c39 => ?_) (fun c39 => ?_)
        · exact absurd c39 (by decide)
        · refine g_aload_n (pc := 42) F dX4_keep_42 rfl ?_
          refine g_getr (pc := 43) F fl_X4_11 (by assumption) rfl dX4_keep_43 ?_
          refine g_iload_n (pc := 46) F dX4_keep_46 rfl ?_
          refine g_iconst (pc := 47) (v := 1) F dX4_keep_47 (by decide) ?_
          refine g_isub (pc := 48) F dX4_keep_48 ?_
          refine g_stk (st' := [.int (nI 2), .ref (ad g 64)]) rfl ?_
          refine g_aload_n (pc := 49) F dX4_keep_49 rfl ?_
          refine g_getr (pc := 50) F fl_X4_11 (by assumption) rfl dX4_keep_50 ?_
          refine g_iload_n (pc := 53) F dX4_keep_53 rfl ?_
          refine g_aaldS (pc := 54) (q := 3) (r := slH sg 3) F k64 (by decide) (by decide) (by rw [hA3, nI_clamp (by have := (hs.1 3 (by decide)).2; omega)]) dX4_keep_54 ?_
          refine g_aastS (pc := 55) (q := sg 3) (i0 := 2) F k64 rfl (by decide) (hs.1 3 (by decide)).2 dX4_keep_55 ?_
          refine g_iinc (pc := 56) F dX4_keep_56 rfl rfl (by decide) rfl ?_
          refine g_goto (pc := 59) (tgt := 33) F dX4_keep_59 (by decide) ?_
          refine G.sub [some (.ref (ad g 63)), some (.ref (ad g (slH sg 0))), some (.int 4)] ⟨rfl, rfl, rfl, trivial⟩ ?_
          have hA4 : (upd2 (upd2 (upd2 (upd2 (upd2 M 63 1 (M 63 1 + 1)) 63 1 4) 64 0 (nI (sg 1))) 64 1 (nI (sg 2))) 64 2 (nI (sg 3))) 64 4 = nI (sg 4) := by
            simp only [upd2_get]
            simp [(hs.1 4 (by decide)).1]
          refine g_iload_n (pc := 33) F dX4_keep_33 rfl ?_
          refine g_aload_n (pc := 34) F dX4_keep_34 rfl ?_
          refine g_getr (pc := 35) F fl_X4_11 (by assumption) rfl dX4_keep_35 ?_
          refine g_alenS (pc := 38) F (by assumption) (v := 5) (by decide) dX4_keep_38 ?_
          refine g_icmp_ge (pc := 39) (tgt := 62) F dX4_keep_39 (by decide) (fun c39 => ?_) (fun c39 => ?_)
          · exact absurd c39 (by decide)
          · refine g_aload_n (pc := 42) F dX4_keep_42 rfl ?_
            refine g_getr (pc := 43) F fl_X4_11 (by assumption) rfl dX4_keep_43 ?_
            refine g_iload_n (pc := 46) F dX4_keep_46 rfl ?_
            refine g_iconst (pc := 47) (v := 1) F dX4_keep_47 (by decide) ?_
            refine g_isub (pc := 48) F dX4_keep_48 ?_
            refine g_stk (st' := [.int (nI 3), .ref (ad g 64)]) rfl ?_
            refine g_aload_n (pc := 49) F dX4_keep_49 rfl ?_
            refine g_getr (pc := 50) F fl_X4_11 (by assumption) rfl dX4_keep_50 ?_
            refine g_iload_n (pc := 53) F dX4_keep_53 rfl ?_
            refine g_aaldS (pc := 54) (q := 4) (r := slH sg 4) F k64 (by decide) (by decide) (by rw [hA4, nI_clamp (by have := (hs.1 4 (by decide)).2; omega)]) dX4_keep_54 ?_
            refine g_aastS (pc := 55) (q := sg 4) (i0 := 3) F k64 rfl (by decide) (hs.1 4 (by decide)).2 dX4_keep_55 ?_
            refine g_iinc (pc := 56) F dX4_keep_56 rfl rfl (by decide) rfl ?_
            refine g_goto (pc := 59) (tgt := 33) F dX4_keep_59 (by decide) ?_
            refine G.sub [some (.ref (ad g 63)), some (.ref (ad g (slH sg 0))), some (.int 5)] ⟨rfl, rfl, rfl, trivial⟩ ?_
            refine g_iload_n (pc := 33) F dX4_keep_33 rfl ?_
            refine g_aload_n (pc := 34) F dX4_keep_34 rfl ?_
            refine g_getr (pc := 35) F fl_X4_11 (by assumption) rfl dX4_keep_35 ?_
            refine g_alenS (pc := 38) F (by assumption) (v := 5) (by decide) dX4_keep_38 ?_
            refine g_icmp_ge (pc := 39) (tgt := 62) F dX4_keep_39 (by decide) (fun c39 => ?_) (fun c39 => ?_)
            · refine g_aload_n (pc := 62) F dX4_keep_62 rfl ?_
              refine g_getr (pc := 63) F fl_X4_11 (by assumption) rfl dX4_keep_63 ?_
              refine g_iconst (pc := 66) (v := 4) F dX4_keep_66 (by decide) ?_
              refine g_aload_n (pc := 67) F dX4_keep_67 rfl ?_
              refine g_aastS (pc := 68) (q := sg 0) (i0 := 4) F k64 (by decide) (by decide) (hs.1 0 (by decide)).2 dX4_keep_68 ?_
              refine g_vret (pc := 69) F r dX4_keep_69 ?_
              refine ⟨rfl, ?_⟩
              unfold keepM
              rw [if_neg (by omega)]
              funext a k
              simp only [upd2_get, updr_get]
              by_cases h64 : a = 64
              · subst h64
                simp only [if_true, show ¬ (64 : Nat) = 63 by decide, if_false]
                have e0 := (hs.1 0 (by decide)).1
                have e1 := (hs.1 1 (by decide)).1
                have e2 := (hs.1 2 (by decide)).1
                have e3 := (hs.1 3 (by decide)).1
                have e4 := (hs.1 4 (by decide)).1
                match k with
                | 0 => simp [e1]
                | 1 => simp [e2]
                | 2 => simp [e3]
                | 3 => simp [e4]
                | 4 => simp [e0]
                | k + 5 => simp [show ¬ k + 5 < 4 by omega]
              · simp only [h64, if_false]
                by_cases h63 : a = 63
                · subst h63
                  by_cases hk : k = 1 <;> simp [hk] <;> decide
                · simp [h63]
            · exact absurd (by decide) c39
  · have h4 : n < 4 := by
      rw [upd2_self, hn, nI_1] at c15
      rcases Nat.lt_or_ge n 4 with q | q
      · exact q
      · exact absurd (nI_lt (a := 4) (b := n + 1) (by omega) (by omega)) c15
    refine g_vret (pc := 18) F r dX4_keep_18 ?_
    refine ⟨rfl, ?_⟩
    unfold keepM
    rw [if_pos h4, hn, nI_1]

set_option maxHeartbeats 4000000 in
set_option maxRecDepth 100000 in
theorem c_X7_settle (l : Launch) (g : Gm) (M : Mem) (sg : Nat → Nat) (hs : slotsR M sg) (n : Nat) (hn4 : n ≤ 4) (hn : M 63 1 = nI n) (x : Int32) : Cn l yX7_settle cX7_settle 2 (some .int) 1 22 g [.ref (ad g 0), .int x] M (fun v M2 => v = some (.int x) ∧ ((x < 0 ∧ M2 = M) ∨ (¬ x < 0 ∧ M2 = keepM M n))) := by
  refine Cn.intro (lv0 := [some (.ref (ad g 0)), some (.int x)]) 0 (by decide +kernel) (Nat.le_of_ble_eq_true rfl) rfl (fun X F r => ?_)
  have k63 := kd63
  have k64 := kd64
  have k1 := kd1
  have k0 := kd0
  refine g_iload_n (pc := 0) F dX7_settle_0 rfl ?_
  refine g_if_lt (pc := 1) (tgt := 11) F dX7_settle_1 (by decide) (fun c1 => ?_) (fun c1 => ?_)
  · refine g_iload_n (pc := 11) F dX7_settle_11 rfl ?_
    refine g_iret (pc := 12) F r dX7_settle_12 ?_
    exact ⟨rfl, Or.inl ⟨c1, rfl⟩⟩
  · refine g_aload_n (pc := 4) F dX7_settle_4 rfl ?_
    refine g_getr (pc := 5) F fl_X7_22 (by assumption) rfl dX7_settle_5 ?_
    refine g_callV (pc := 8) (rf2 := 0) (rl2 := 0) F cs_X7_203 k63 rfl (by decide) (by rfl) (by rfl) (Nat.le_of_ble_eq_true (by rfl)) (by decide) dX7_settle_8 (c_X4_keep _ g _ sg hs n hn4 hn) (fun v M2 hz => ?_)
    obtain ⟨rfl, hz⟩ := hz
    refine g_iload_n (pc := 11) F dX7_settle_11 rfl ?_
    refine g_iret (pc := 12) F r dX7_settle_12 ?_
    exact ⟨rfl, Or.inr ⟨c1, hz⟩⟩
end
section
/-! THE OBJECT: its state (hall, history, text), what the class's cells say of it -/
/-- hall, the states kept (oldest first) and how many, the text and its length -/
abbrev AS : Type := SV × (Nat → SV) × Nat × (Nat → Int32) × Nat
def CAs (M : Mem) (A : AS) (sg : Nat → Nat) : Prop := HR M 1 A.1 ∧ TR M A.2.2.2.1 A.2.2.2.2 ∧ A.2.2.1 ≤ 4 ∧ M 63 1 = nI A.2.2.1 ∧ slotsR M sg ∧ ∀ k, k < A.2.2.1 → HR M (slH sg k) (A.2.1 k)
def CA (M : Mem) (A : AS) : Prop := ∃ sg, CAs M A sg
def AI (A : AS) : Prop := InvE A.1 ∧ (∀ k, k < A.2.2.1 → InvE (A.2.1 k)) ∧ TI A.2.2.2.1 A.2.2.2.2
def pushP (P : Nat → SV) (pn : Nat) (S : SV) : (Nat → SV) × Nat := if pn < 4 then (fun k => if k = pn then S else P k, pn + 1) else (fun k => if k < 3 then P (k + 1) else S, 4)
/-- a call that answered r: nothing, if that is an error; else the state before is kept -/
def apA (A : AS) (r : Int32 × SV) : AS := if r.1 < 0 then A else (r.2, (pushP A.2.1 A.2.2.1 A.1).1, (pushP A.2.1 A.2.2.1 A.1).2, A.2.2.2.1, A.2.2.2.2)
/-- the check's cells stay -/
def frC (M M2 : Mem) : Prop := ∀ a, 224 ≤ a → M2 a = M a
theorem frC.refl (M : Mem) : frC M M := fun _ _ => rfl
theorem frC.trans {M M1 M2 : Mem} (h : frC M M1) (k : frC M1 M2) : frC M M2 := fun a ha => (k a ha).trans (h a ha)
theorem HR_rowE {M M2 : Mem} {h : Nat} {S : SV} (hr : HR M h S) (hi : InvE S) (e : ∀ a, h ≤ a → a < h + 31 → M2 a = M a) : HR M2 h S := by
  obtain ⟨t, -, hv⟩ := hi
  exact HR_row hr hv.cn_le.1 hv.gn_le.1 e
theorem slH_lt {M : Mem} {sg : Nat → Nat} (hs : slotsR M sg) {k : Nat} (hk : k < 5) : slH sg k + 31 ≤ 220 := by
  have := (hs.1 k hk).2
  show 65 + 31 * sg k + 31 ≤ 220
  omega
theorem slH_apart {M : Mem} {sg : Nat → Nat} (hs : slotsR M sg) {i j : Nat} (hi : i < 5) (hj : j < 5) (hij : i ≠ j) : slH sg i + 31 ≤ slH sg j ∨ slH sg j + 31 ≤ slH sg i := by
  have : sg i ≠ sg j := fun e => hij (hs.2 i j hi hj e)
  show 65 + 31 * sg i + 31 ≤ 65 + 31 * sg j ∨ 65 + 31 * sg j + 31 ≤ 65 + 31 * sg i
  omega
theorem CAs_frame {M M2 : Mem} {A : AS} {sg : Nat → Nat} (h : CAs M A sg) (hi : AI A) (e : ∀ a, ((1 ≤ a ∧ a < 32) ∨ (63 ≤ a ∧ a < 222)) → M2 a = M a) : CAs M2 A sg := by
  obtain ⟨h1, h2, h3, h4, h5, h6⟩ := h
  refine ⟨HR_rowE h1 hi.1 (fun a a1 a2 => e a (Or.inl ⟨a1, by omega⟩)), h2.row (e 220 (by omega)) (e 221 (by omega)), h3, by rw [e 63 (by omega)]; exact h4, ⟨fun k hk => by rw [e 64 (by omega)]; exact h5.1 k hk, h5.2⟩, fun k hk => HR_rowE (h6 k hk) (hi.2.1 k hk) (fun a a1 a2 => ?_)⟩
  have g1 := slH_ge sg k
  have g2 := slH_lt h5 (k := k) (by omega)
  exact e a (Or.inr ⟨by omega, by omega⟩)
theorem CA_frame {M M2 : Mem} {A : AS} (h : CA M A) (hi : AI A) (e : ∀ a, ((1 ≤ a ∧ a < 32) ∨ (63 ≤ a ∧ a < 222)) → M2 a = M a) : CA M2 A := by
  obtain ⟨sg, hs⟩ := h
  exact ⟨sg, CAs_frame hs hi e⟩
/-- noted, done, settled -/
theorem CA_apply {M M1 M2 M3 : Mem} {A : AS} {sg : Nat → Nat} {r : Int32 × SV} (h : CAs M A sg) (hi : AI A) (n1 : HR M1 (slH sg A.2.2.1) A.1) (f1 : frH M M1 (slH sg A.2.2.1)) (n2 : HR M2 1 r.2) (f2 : frH M1 M2 1) (ok : okR A.1 r)
    (n3 : (r.1 < 0 ∧ M3 = M2) ∨ (¬ r.1 < 0 ∧ M3 = keepM M2 A.2.2.1)) : CA M3 (apA A r) ∧ AI (apA A r) ∧ frC M M3 := by
  obtain ⟨S, P, pn, tx, tn⟩ := A
  obtain ⟨h1, h2, h3, h4, h5, h6⟩ := h
  dsimp only at *
  have g0 := slH_ge sg pn
  have g1 := slH_lt h5 (k := pn) (by omega)
  have f3 : ∀ a, (32 ≤ a ∧ (a < slH sg pn ∨ slH sg pn + 31 ≤ a)) → M2 a = M a := fun a ha => (f2 a (by omega)).trans (f1 a ha.2)
  have s2 : slotsR M2 sg := ⟨fun k hk => by rw [f3 64 (by omega)]; exact h5.1 k hk, h5.2⟩
  have t2 : TR M2 tx tn := h2.row (f3 220 (by omega)) (f3 221 (by omega))
  have k2 : M2 63 1 = nI pn := by rw [f3 63 (by omega)]; exact h4
  have p2 : ∀ k, k < pn → HR M2 (slH sg k) (P k) := by
    intro k hk
    have q0 := slH_ge sg k
    have q1 := slH_apart h5 (i := k) (j := pn) (by omega) (by omega) (by omega)
    exact HR_rowE (h6 k hk) (hi.2.1 k hk) (fun a a1 a2 => f3 a (by omega))
  have pS : HR M2 (slH sg pn) S := HR_rowE n1 hi.1 (fun a a1 a2 => f2 a (by omega))
  have fc : frC M M2 := fun a ha => f3 a (by omega)
  rcases n3 with ⟨hneg, rfl⟩ | ⟨hpos, rfl⟩
  · have hS : r.2 = S := ok.2.elim (fun q => absurd hneg q) (fun q => q.2)
    have e : apA (S, P, pn, tx, tn) r = (S, P, pn, tx, tn) := if_pos hneg
    rw [e]
    rw [hS] at n2
    exact ⟨⟨sg, n2, t2, h3, k2, s2, p2⟩, hi, fc⟩
  · have e : apA (S, P, pn, tx, tn) r = (r.2, (pushP P pn S).1, (pushP P pn S).2, tx, tn) := if_neg hpos
    rw [e]
    by_cases h4n : pn < 4
    · have ep : pushP P pn S = (fun k => if k = pn then S else P k, pn + 1) := if_pos h4n
      have ek : keepM M2 pn = upd2 M2 63 1 (nI (pn + 1)) := if_pos h4n
      rw [ep, ek]
      have o : ∀ a, a ≠ 63 → upd2 M2 63 1 (nI (pn + 1)) a = M2 a := fun a ha => upd2_k _ _ _ ha
      refine ⟨⟨sg, HR_rowE n2 ok.1 (fun a a1 a2 => o a (by omega)), t2.row (o 220 (by decide)) (o 221 (by decide)), by show pn + 1 ≤ 4; omega, upd2_self _ _ _ _, ⟨fun k hk => by rw [o 64 (by decide)]; exact s2.1 k hk, s2.2⟩, fun k hk => ?_⟩, ⟨ok.1, fun k hk => ?_, hi.2.2⟩, fc.trans (fun a ha => o a (by omega))⟩
      · have hk' : k < pn + 1 := hk
        have q0 := slH_ge sg k
        show HR _ (slH sg k) (if k = pn then S else P k)
        by_cases hkp : k = pn
        · rw [if_pos hkp, hkp]
          exact HR_rowE pS hi.1 (fun a a1 a2 => o a (by omega))
        · rw [if_neg hkp]
          exact HR_rowE (p2 k (by omega)) (hi.2.1 k (show k < pn by omega)) (fun a a1 a2 => o a (by omega))
      · have hk' : k < pn + 1 := hk
        show InvE (if k = pn then S else P k)
        by_cases hkp : k = pn
        · rw [if_pos hkp]; exact hi.1
        · rw [if_neg hkp]; exact hi.2.1 k (show k < pn by omega)
    · have hp4 : pn = 4 := by omega
      subst hp4
      have ep : pushP P 4 S = (fun k => if k < 3 then P (k + 1) else S, 4) := if_neg h4n
      have ek : keepM M2 4 = updr (upd2 M2 63 1 (nI 4)) 64 (fun k => if k < 4 then M2 64 (k + 1) else if k = 4 then M2 64 0 else M2 64 k) := if_neg h4n
      rw [ep, ek]
      have o : ∀ a, a ≠ 63 → a ≠ 64 → updr (upd2 M2 63 1 (nI 4)) 64 (fun k => if k < 4 then M2 64 (k + 1) else if k = 4 then M2 64 0 else M2 64 k) a = M2 a := fun a h63 h64 => (updr_ne _ _ h64).trans (upd2_k _ _ _ h63)
      refine ⟨⟨fun k => if k < 4 then sg (k + 1) else sg 0, HR_rowE n2 ok.1 (fun a a1 a2 => o a (by omega) (by omega)), t2.row (o 220 (by decide) (by decide)) (o 221 (by decide) (by decide)), Nat.le_refl 4, ?_, ⟨fun k hk => ?_, fun i j hi' hj' hij => ?_⟩, fun k hk => ?_⟩, ⟨ok.1, fun k hk => ?_, hi.2.2⟩, fc.trans (fun a ha => o a (by omega) (by omega))⟩
      · rw [updr_ne _ _ (by decide), upd2_self]
      · rw [updr_self]
        show (if k < 4 then M2 64 (k + 1) else if k = 4 then M2 64 0 else M2 64 k) = nI (if k < 4 then sg (k + 1) else sg 0) ∧ (if k < 4 then sg (k + 1) else sg 0) < 5
        by_cases hk4 : k < 4
        · rw [if_pos hk4, if_pos hk4]
          exact s2.1 (k + 1) (by omega)
        · rw [if_neg hk4, if_neg hk4, if_pos (by omega)]
          exact s2.1 0 (by decide)
      · dsimp only at hij
        by_cases a1 : i < 4 <;> by_cases a2 : j < 4
        · rw [if_pos a1, if_pos a2] at hij
          have := s2.2 (i + 1) (j + 1) (by omega) (by omega) hij
          omega
        · rw [if_pos a1, if_neg a2] at hij
          have := s2.2 (i + 1) 0 (by omega) (by omega) hij
          omega
        · rw [if_neg a1, if_pos a2] at hij
          have := s2.2 0 (j + 1) (by omega) (by omega) hij
          omega
        · omega
      · have hk' : k < 4 := hk
        have e1 : slH (fun k => if k < 4 then sg (k + 1) else sg 0) k = slH sg (k + 1) := by
          show 65 + 31 * (if k < 4 then sg (k + 1) else sg 0) = 65 + 31 * sg (k + 1)
          rw [if_pos hk']
        rw [e1]
        have q0 := slH_ge sg (k + 1)
        show HR _ _ (if k < 3 then P (k + 1) else S)
        by_cases hk3 : k < 3
        · rw [if_pos hk3]
          exact HR_rowE (p2 (k + 1) (by omega)) (hi.2.1 (k + 1) (show k + 1 < 4 by omega)) (fun a a1 a2 => o a (by omega) (by omega))
        · rw [if_neg hk3]
          have : k + 1 = 4 := by omega
          rw [this] at q0 ⊢
          exact HR_rowE pS hi.1 (fun a a1 a2 => o a (by omega) (by omega))
      · have hk' : k < 4 := hk
        show InvE (if k < 3 then P (k + 1) else S)
        by_cases hk3 : k < 3
        · rw [if_pos hk3]; exact hi.2.1 (k + 1) (show k + 1 < 4 by omega)
        · rw [if_neg hk3]; exact hi.1
end
section
/-! the calls that change: noted, done, settled -/
set_option maxHeartbeats 4000000 in
set_option maxRecDepth 100000 in
theorem c_X7_clock (l : Launch) (g : Gm) (M : Mem) (A : AS) (hA : CA M A) (hI : AI A) (la a b c d : Int32) : Cn l yX7_clock cX7_clock 6 (some .int) 4 104 g [.ref (ad g 0), .int la, .int a, .int b, .int c, .int d] M (fun v M2 => v = some (.int (oClock A.1 la a b c d).1) ∧ CA M2 (apA A (oClock A.1 la a b c d)) ∧ AI (apA A (oClock A.1 la a b c d)) ∧ frC M M2) := by
  refine Cn.intro (lv0 := [some (.ref (ad g 0)), some (.int la), some (.int a), some (.int b), some (.int c), some (.int d)]) 0 (by decide +kernel) (Nat.le_of_ble_eq_true rfl) rfl (fun X F r => ?_)
  obtain ⟨sg, hA1, hA2, hA3, hA4, hA5, hA6⟩ := hA
  obtain ⟨t, ht, hi⟩ := hI.1
  have k0 := kd0
  have k63 := kd63
  have k1 := kd1
  refine g_aload_n (pc := 0) F dX7_clock_0 rfl ?_
  refine g_getr (pc := 1) F fl_X7_22 (by assumption) rfl dX7_clock_1 ?_
  refine g_aload_n (pc := 4) F dX7_clock_4 rfl ?_
  refine g_getr (pc := 5) F fl_X7_12 (by assumption) rfl dX7_clock_5 ?_
  refine g_callV (pc := 8) (rf2 := 3) (rl2 := 83) F cs_X7_42 k63 rfl (by decide) (by rfl) (by rfl) (Nat.le_of_ble_eq_true (by rfl)) (by decide) dX7_clock_8 (c_X4_note _ g _ sg hA5 A.2.2.1 hA3 hA4 A.1 t hA1 hi) (fun v M1 hz => ?_)
  obtain ⟨rfl, n1, f1⟩ := hz
  have g0 := slH_ge sg A.2.2.1
  have g1 := slH_lt hA5 (k := A.2.2.1) (by omega)
  have hr1 : HR M1 1 A.1 := HR_rowE hA1 hI.1 (fun a a1 a2 => f1 a (by omega))
  refine g_aload_n (pc := 11) F dX7_clock_11 rfl ?_
  refine g_aload_n (pc := 12) F dX7_clock_12 rfl ?_
  refine g_getr (pc := 13) F fl_X7_12 (by assumption) rfl dX7_clock_13 ?_
  refine g_iload_n (pc := 16) F dX7_clock_16 rfl ?_
  refine g_iload_n (pc := 17) F dX7_clock_17 rfl ?_
  refine g_iload_n (pc := 18) F dX7_clock_18 rfl ?_
  refine g_iload (pc := 19) F dX7_clock_19 rfl ?_
  refine g_iload (pc := 21) F dX7_clock_21 rfl ?_
  refine g_callV (pc := 23) (rf2 := 3) (rl2 := 68) F cs_X7_46 k1 rfl (by decide) (by rfl) (by rfl) (Nat.le_of_ble_eq_true (by rfl)) (by decide) dX7_clock_23 (c_X3_addClock _ g _ 1 k1 A.1 t hr1 hi la a b c d) (fun v M2 hz => ?_)
  obtain ⟨rfl, n2, f2⟩ := hz
  refine g_callV (pc := 26) (rf2 := 1) (rl2 := 22) F cs_X7_50 k0 rfl (by decide) (by rfl) (by rfl) (Nat.le_of_ble_eq_true (by rfl)) (by decide) dX7_clock_26 (c_X7_settle _ g _ sg ⟨fun k hk => by rw [f2 64 (by omega), f1 64 (by omega)]; exact hA5.1 k hk, hA5.2⟩ A.2.2.1 hA3 (by rw [f2 63 (by omega), f1 63 (by omega)]; exact hA4) _) (fun v M3 hz => ?_)
  obtain ⟨rfl, n3⟩ := hz
  refine g_iret (pc := 29) F r dX7_clock_29 ?_
  exact ⟨rfl, CA_apply (r := oClock A.1 la a b c d) ⟨hA1, hA2, hA3, hA4, hA5, hA6⟩ hI n1 f1 n2 f2 (ok_clock hi ht la a b c d) n3⟩

set_option maxHeartbeats 4000000 in
set_option maxRecDepth 100000 in
theorem c_X7_wind (l : Launch) (g : Gm) (M : Mem) (A : AS) (hA : CA M A) (hI : AI A) (x : Int32) : Cn l yX7_wind cX7_wind 2 (some .int) 4 104 g [.ref (ad g 0), .int x] M (fun v M2 => v = some (.int (oWind A.1 x).1) ∧ CA M2 (apA A (oWind A.1 x)) ∧ AI (apA A (oWind A.1 x)) ∧ frC M M2) := by
  refine Cn.intro (lv0 := [some (.ref (ad g 0)), some (.int x)]) 0 (by decide +kernel) (Nat.le_of_ble_eq_true rfl) rfl (fun X F r => ?_)
  obtain ⟨sg, hA1, hA2, hA3, hA4, hA5, hA6⟩ := hA
  obtain ⟨t, ht, hi⟩ := hI.1
  have k0 := kd0
  have k63 := kd63
  have k1 := kd1
  refine g_aload_n (pc := 0) F dX7_wind_0 rfl ?_
  refine g_getr (pc := 1) F fl_X7_22 (by assumption) rfl dX7_wind_1 ?_
  refine g_aload_n (pc := 4) F dX7_wind_4 rfl ?_
  refine g_getr (pc := 5) F fl_X7_12 (by assumption) rfl dX7_wind_5 ?_
  refine g_callV (pc := 8) (rf2 := 3) (rl2 := 83) F cs_X7_42 k63 rfl (by decide) (by rfl) (by rfl) (Nat.le_of_ble_eq_true (by rfl)) (by decide) dX7_wind_8 (c_X4_note _ g _ sg hA5 A.2.2.1 hA3 hA4 A.1 t hA1 hi) (fun v M1 hz => ?_)
  obtain ⟨rfl, n1, f1⟩ := hz
  have g0 := slH_ge sg A.2.2.1
  have g1 := slH_lt hA5 (k := A.2.2.1) (by omega)
  have hr1 : HR M1 1 A.1 := HR_rowE hA1 hI.1 (fun a a1 a2 => f1 a (by omega))
  refine g_aload_n (pc := 11) F dX7_wind_11 rfl ?_
  refine g_aload_n (pc := 12) F dX7_wind_12 rfl ?_
  refine g_getr (pc := 13) F fl_X7_12 (by assumption) rfl dX7_wind_13 ?_
  refine g_iload_n (pc := 16) F dX7_wind_16 rfl ?_
  refine g_callV (pc := 17) (rf2 := 2) (rl2 := 42) F cs_X7_54 k1 rfl (by decide) (by rfl) (by rfl) (Nat.le_of_ble_eq_true (by rfl)) (by decide) dX7_wind_17 (c_X3_windClock _ g _ 1 k1 A.1 t hr1 hi x) (fun v M2 hz => ?_)
  obtain ⟨rfl, n2, f2⟩ := hz
  refine g_callV (pc := 20) (rf2 := 1) (rl2 := 22) F cs_X7_50 k0 rfl (by decide) (by rfl) (by rfl) (Nat.le_of_ble_eq_true (by rfl)) (by decide) dX7_wind_20 (c_X7_settle _ g _ sg ⟨fun k hk => by rw [f2 64 (by omega), f1 64 (by omega)]; exact hA5.1 k hk, hA5.2⟩ A.2.2.1 hA3 (by rw [f2 63 (by omega), f1 63 (by omega)]; exact hA4) _) (fun v M3 hz => ?_)
  obtain ⟨rfl, n3⟩ := hz
  refine g_iret (pc := 23) F r dX7_wind_23 ?_
  exact ⟨rfl, CA_apply (r := oWind A.1 x) ⟨hA1, hA2, hA3, hA4, hA5, hA6⟩ hI n1 f1 n2 f2 (ok_wind hi ht x) n3⟩

set_option maxHeartbeats 4000000 in
set_option maxRecDepth 100000 in
theorem c_X7_tick (l : Launch) (g : Gm) (M : Mem) (A : AS) (hA : CA M A) (hI : AI A) (k : Int32) : Cn l yX7_tick cX7_tick 2 (some .int) 4 104 g [.ref (ad g 0), .int k] M (fun v M2 => v = some (.int (oTick A.1 k).1) ∧ CA M2 (apA A (oTick A.1 k)) ∧ AI (apA A (oTick A.1 k)) ∧ frC M M2) := by
  refine Cn.intro (lv0 := [some (.ref (ad g 0)), some (.int k)]) 0 (by decide +kernel) (Nat.le_of_ble_eq_true rfl) rfl (fun X F r => ?_)
  obtain ⟨sg, hA1, hA2, hA3, hA4, hA5, hA6⟩ := hA
  obtain ⟨t, ht, hi⟩ := hI.1
  have k0 := kd0
  have k63 := kd63
  have k1 := kd1
  refine g_aload_n (pc := 0) F dX7_tick_0 rfl ?_
  refine g_getr (pc := 1) F fl_X7_22 (by assumption) rfl dX7_tick_1 ?_
  refine g_aload_n (pc := 4) F dX7_tick_4 rfl ?_
  refine g_getr (pc := 5) F fl_X7_12 (by assumption) rfl dX7_tick_5 ?_
  refine g_callV (pc := 8) (rf2 := 3) (rl2 := 83) F cs_X7_42 k63 rfl (by decide) (by rfl) (by rfl) (Nat.le_of_ble_eq_true (by rfl)) (by decide) dX7_tick_8 (c_X4_note _ g _ sg hA5 A.2.2.1 hA3 hA4 A.1 t hA1 hi) (fun v M1 hz => ?_)
  obtain ⟨rfl, n1, f1⟩ := hz
  have g0 := slH_ge sg A.2.2.1
  have g1 := slH_lt hA5 (k := A.2.2.1) (by omega)
  have hr1 : HR M1 1 A.1 := HR_rowE hA1 hI.1 (fun a a1 a2 => f1 a (by omega))
  refine g_aload_n (pc := 11) F dX7_tick_11 rfl ?_
  refine g_aload_n (pc := 12) F dX7_tick_12 rfl ?_
  refine g_getr (pc := 13) F fl_X7_12 (by assumption) rfl dX7_tick_13 ?_
  refine g_iload_n (pc := 16) F dX7_tick_16 rfl ?_
  refine g_callV (pc := 17) (rf2 := 3) (rl2 := 64) F cs_X7_57 k1 rfl (by decide) (by rfl) (by rfl) (Nat.le_of_ble_eq_true (by rfl)) (by decide) dX7_tick_17 (c_X3_endTicks _ g _ 1 k1 A.1 t hr1 hi k) (fun v M2 hz => ?_)
  obtain ⟨rfl, n2, f2⟩ := hz
  refine g_callV (pc := 20) (rf2 := 1) (rl2 := 22) F cs_X7_50 k0 rfl (by decide) (by rfl) (by rfl) (Nat.le_of_ble_eq_true (by rfl)) (by decide) dX7_tick_20 (c_X7_settle _ g _ sg ⟨fun k hk => by rw [f2 64 (by omega), f1 64 (by omega)]; exact hA5.1 k hk, hA5.2⟩ A.2.2.1 hA3 (by rw [f2 63 (by omega), f1 63 (by omega)]; exact hA4) _) (fun v M3 hz => ?_)
  obtain ⟨rfl, n3⟩ := hz
  refine g_iret (pc := 23) F r dX7_tick_23 ?_
  exact ⟨rfl, CA_apply (r := oTick A.1 k) ⟨hA1, hA2, hA3, hA4, hA5, hA6⟩ hI n1 f1 n2 f2 (ok_tick hi ht k) n3⟩

set_option maxHeartbeats 4000000 in
set_option maxRecDepth 100000 in
theorem c_X7_passenger (l : Launch) (g : Gm) (M : Mem) (A : AS) (hA : CA M A) (hI : AI A) (x : Int32) : Cn l yX7_passenger cX7_passenger 2 (some .int) 4 104 g [.ref (ad g 0), .int x] M (fun v M2 => v = some (.int (oPass A.1 x).1) ∧ CA M2 (apA A (oPass A.1 x)) ∧ AI (apA A (oPass A.1 x)) ∧ frC M M2) := by
  refine Cn.intro (lv0 := [some (.ref (ad g 0)), some (.int x)]) 0 (by decide +kernel) (Nat.le_of_ble_eq_true rfl) rfl (fun X F r => ?_)
  obtain ⟨sg, hA1, hA2, hA3, hA4, hA5, hA6⟩ := hA
  obtain ⟨t, ht, hi⟩ := hI.1
  have k0 := kd0
  have k63 := kd63
  have k1 := kd1
  refine g_aload_n (pc := 0) F dX7_passenger_0 rfl ?_
  refine g_getr (pc := 1) F fl_X7_22 (by assumption) rfl dX7_passenger_1 ?_
  refine g_aload_n (pc := 4) F dX7_passenger_4 rfl ?_
  refine g_getr (pc := 5) F fl_X7_12 (by assumption) rfl dX7_passenger_5 ?_
  refine g_callV (pc := 8) (rf2 := 3) (rl2 := 83) F cs_X7_42 k63 rfl (by decide) (by rfl) (by rfl) (Nat.le_of_ble_eq_true (by rfl)) (by decide) dX7_passenger_8 (c_X4_note _ g _ sg hA5 A.2.2.1 hA3 hA4 A.1 t hA1 hi) (fun v M1 hz => ?_)
  obtain ⟨rfl, n1, f1⟩ := hz
  have g0 := slH_ge sg A.2.2.1
  have g1 := slH_lt hA5 (k := A.2.2.1) (by omega)
  have hr1 : HR M1 1 A.1 := HR_rowE hA1 hI.1 (fun a a1 a2 => f1 a (by omega))
  refine g_aload_n (pc := 11) F dX7_passenger_11 rfl ?_
  refine g_aload_n (pc := 12) F dX7_passenger_12 rfl ?_
  refine g_getr (pc := 13) F fl_X7_12 (by assumption) rfl dX7_passenger_13 ?_
  refine g_iload_n (pc := 16) F dX7_passenger_16 rfl ?_
  refine g_callV (pc := 17) (rf2 := 1) (rl2 := 21) F cs_X7_60 k1 rfl (by decide) (by rfl) (by rfl) (Nat.le_of_ble_eq_true (by rfl)) (by decide) dX7_passenger_17 (c_X3_addPassenger _ g _ 1 k1 A.1 t hr1 hi x) (fun v M2 hz => ?_)
  obtain ⟨rfl, n2, f2⟩ := hz
  refine g_callV (pc := 20) (rf2 := 1) (rl2 := 22) F cs_X7_50 k0 rfl (by decide) (by rfl) (by rfl) (Nat.le_of_ble_eq_true (by rfl)) (by decide) dX7_passenger_20 (c_X7_settle _ g _ sg ⟨fun k hk => by rw [f2 64 (by omega), f1 64 (by omega)]; exact hA5.1 k hk, hA5.2⟩ A.2.2.1 hA3 (by rw [f2 63 (by omega), f1 63 (by omega)]; exact hA4) _) (fun v M3 hz => ?_)
  obtain ⟨rfl, n3⟩ := hz
  refine g_iret (pc := 23) F r dX7_passenger_23 ?_
  exact ⟨rfl, CA_apply (r := oPass A.1 x) ⟨hA1, hA2, hA3, hA4, hA5, hA6⟩ hI n1 f1 n2 f2 (ok_pass hi ht x) n3⟩

set_option maxHeartbeats 4000000 in
set_option maxRecDepth 100000 in
theorem c_X7_group (l : Launch) (g : Gm) (M : Mem) (A : AS) (hA : CA M A) (hI : AI A) (la : Int32) : Cn l yX7_group cX7_group 2 (some .int) 4 104 g [.ref (ad g 0), .int la] M (fun v M2 => v = some (.int (oGroup A.1 la).1) ∧ CA M2 (apA A (oGroup A.1 la)) ∧ AI (apA A (oGroup A.1 la)) ∧ frC M M2) := by
  refine Cn.intro (lv0 := [some (.ref (ad g 0)), some (.int la)]) 0 (by decide +kernel) (Nat.le_of_ble_eq_true rfl) rfl (fun X F r => ?_)
  obtain ⟨sg, hA1, hA2, hA3, hA4, hA5, hA6⟩ := hA
  obtain ⟨t, ht, hi⟩ := hI.1
  have k0 := kd0
  have k63 := kd63
  have k1 := kd1
  refine g_aload_n (pc := 0) F dX7_group_0 rfl ?_
  refine g_getr (pc := 1) F fl_X7_22 (by assumption) rfl dX7_group_1 ?_
  refine g_aload_n (pc := 4) F dX7_group_4 rfl ?_
  refine g_getr (pc := 5) F fl_X7_12 (by assumption) rfl dX7_group_5 ?_
  refine g_callV (pc := 8) (rf2 := 3) (rl2 := 83) F cs_X7_42 k63 rfl (by decide) (by rfl) (by rfl) (Nat.le_of_ble_eq_true (by rfl)) (by decide) dX7_group_8 (c_X4_note _ g _ sg hA5 A.2.2.1 hA3 hA4 A.1 t hA1 hi) (fun v M1 hz => ?_)
  obtain ⟨rfl, n1, f1⟩ := hz
  have g0 := slH_ge sg A.2.2.1
  have g1 := slH_lt hA5 (k := A.2.2.1) (by omega)
  have hr1 : HR M1 1 A.1 := HR_rowE hA1 hI.1 (fun a a1 a2 => f1 a (by omega))
  refine g_aload_n (pc := 11) F dX7_group_11 rfl ?_
  refine g_aload_n (pc := 12) F dX7_group_12 rfl ?_
  refine g_getr (pc := 13) F fl_X7_12 (by assumption) rfl dX7_group_13 ?_
  refine g_iload_n (pc := 16) F dX7_group_16 rfl ?_
  refine g_callV (pc := 17) (rf2 := 1) (rl2 := 21) F cs_X7_63 k1 rfl (by decide) (by rfl) (by rfl) (Nat.le_of_ble_eq_true (by rfl)) (by decide) dX7_group_17 (c_X3_addGroup _ g _ 1 k1 A.1 t hr1 hi la) (fun v M2 hz => ?_)
  obtain ⟨rfl, n2, f2⟩ := hz
  refine g_callV (pc := 20) (rf2 := 1) (rl2 := 22) F cs_X7_50 k0 rfl (by decide) (by rfl) (by rfl) (Nat.le_of_ble_eq_true (by rfl)) (by decide) dX7_group_20 (c_X7_settle _ g _ sg ⟨fun k hk => by rw [f2 64 (by omega), f1 64 (by omega)]; exact hA5.1 k hk, hA5.2⟩ A.2.2.1 hA3 (by rw [f2 63 (by omega), f1 63 (by omega)]; exact hA4) _) (fun v M3 hz => ?_)
  obtain ⟨rfl, n3⟩ := hz
  refine g_iret (pc := 23) F r dX7_group_23 ?_
  exact ⟨rfl, CA_apply (r := oGroup A.1 la) ⟨hA1, hA2, hA3, hA4, hA5, hA6⟩ hI n1 f1 n2 f2 (ok_group hi ht la) n3⟩

set_option maxHeartbeats 4000000 in
set_option maxRecDepth 100000 in
theorem c_X7_join (l : Launch) (g : Gm) (M : Mem) (A : AS) (hA : CA M A) (hI : AI A) (gx x : Int32) : Cn l yX7_join cX7_join 3 (some .int) 4 104 g [.ref (ad g 0), .int gx, .int x] M (fun v M2 => v = some (.int (oJoin A.1 gx x).1) ∧ CA M2 (apA A (oJoin A.1 gx x)) ∧ AI (apA A (oJoin A.1 gx x)) ∧ frC M M2) := by
  refine Cn.intro (lv0 := [some (.ref (ad g 0)), some (.int gx), some (.int x)]) 0 (by decide +kernel) (Nat.le_of_ble_eq_true rfl) rfl (fun X F r => ?_)
  obtain ⟨sg, hA1, hA2, hA3, hA4, hA5, hA6⟩ := hA
  obtain ⟨t, ht, hi⟩ := hI.1
  have k0 := kd0
  have k63 := kd63
  have k1 := kd1
  refine g_aload_n (pc := 0) F dX7_join_0 rfl ?_
  refine g_getr (pc := 1) F fl_X7_22 (by assumption) rfl dX7_join_1 ?_
  refine g_aload_n (pc := 4) F dX7_join_4 rfl ?_
  refine g_getr (pc := 5) F fl_X7_12 (by assumption) rfl dX7_join_5 ?_
  refine g_callV (pc := 8) (rf2 := 3) (rl2 := 83) F cs_X7_42 k63 rfl (by decide) (by rfl) (by rfl) (Nat.le_of_ble_eq_true (by rfl)) (by decide) dX7_join_8 (c_X4_note _ g _ sg hA5 A.2.2.1 hA3 hA4 A.1 t hA1 hi) (fun v M1 hz => ?_)
  obtain ⟨rfl, n1, f1⟩ := hz
  have g0 := slH_ge sg A.2.2.1
  have g1 := slH_lt hA5 (k := A.2.2.1) (by omega)
  have hr1 : HR M1 1 A.1 := HR_rowE hA1 hI.1 (fun a a1 a2 => f1 a (by omega))
  refine g_aload_n (pc := 11) F dX7_join_11 rfl ?_
  refine g_aload_n (pc := 12) F dX7_join_12 rfl ?_
  refine g_getr (pc := 13) F fl_X7_12 (by assumption) rfl dX7_join_13 ?_
  refine g_iload_n (pc := 16) F dX7_join_16 rfl ?_
  refine g_iload_n (pc := 17) F dX7_join_17 rfl ?_
  refine g_callV (pc := 18) (rf2 := 2) (rl2 := 40) F cs_X7_66 k1 rfl (by decide) (by rfl) (by rfl) (Nat.le_of_ble_eq_true (by rfl)) (by decide) dX7_join_18 (c_X3_joinGroup _ g _ 1 k1 A.1 t hr1 hi gx x) (fun v M2 hz => ?_)
  obtain ⟨rfl, n2, f2⟩ := hz
  refine g_callV (pc := 21) (rf2 := 1) (rl2 := 22) F cs_X7_50 k0 rfl (by decide) (by rfl) (by rfl) (Nat.le_of_ble_eq_true (by rfl)) (by decide) dX7_join_21 (c_X7_settle _ g _ sg ⟨fun k hk => by rw [f2 64 (by omega), f1 64 (by omega)]; exact hA5.1 k hk, hA5.2⟩ A.2.2.1 hA3 (by rw [f2 63 (by omega), f1 63 (by omega)]; exact hA4) _) (fun v M3 hz => ?_)
  obtain ⟨rfl, n3⟩ := hz
  refine g_iret (pc := 24) F r dX7_join_24 ?_
  exact ⟨rfl, CA_apply (r := oJoin A.1 gx x) ⟨hA1, hA2, hA3, hA4, hA5, hA6⟩ hI n1 f1 n2 f2 (ok_join hi ht gx x) n3⟩

set_option maxHeartbeats 4000000 in
set_option maxRecDepth 100000 in
theorem c_X7_leave (l : Launch) (g : Gm) (M : Mem) (A : AS) (hA : CA M A) (hI : AI A) (gx x : Int32) : Cn l yX7_leave cX7_leave 3 (some .int) 4 104 g [.ref (ad g 0), .int gx, .int x] M (fun v M2 => v = some (.int (oLeave A.1 gx x).1) ∧ CA M2 (apA A (oLeave A.1 gx x)) ∧ AI (apA A (oLeave A.1 gx x)) ∧ frC M M2) := by
  refine Cn.intro (lv0 := [some (.ref (ad g 0)), some (.int gx), some (.int x)]) 0 (by decide +kernel) (Nat.le_of_ble_eq_true rfl) rfl (fun X F r => ?_)
  obtain ⟨sg, hA1, hA2, hA3, hA4, hA5, hA6⟩ := hA
  obtain ⟨t, ht, hi⟩ := hI.1
  have k0 := kd0
  have k63 := kd63
  have k1 := kd1
  refine g_aload_n (pc := 0) F dX7_leave_0 rfl ?_
  refine g_getr (pc := 1) F fl_X7_22 (by assumption) rfl dX7_leave_1 ?_
  refine g_aload_n (pc := 4) F dX7_leave_4 rfl ?_
  refine g_getr (pc := 5) F fl_X7_12 (by assumption) rfl dX7_leave_5 ?_
  refine g_callV (pc := 8) (rf2 := 3) (rl2 := 83) F cs_X7_42 k63 rfl (by decide) (by rfl) (by rfl) (Nat.le_of_ble_eq_true (by rfl)) (by decide) dX7_leave_8 (c_X4_note _ g _ sg hA5 A.2.2.1 hA3 hA4 A.1 t hA1 hi) (fun v M1 hz => ?_)
  obtain ⟨rfl, n1, f1⟩ := hz
  have g0 := slH_ge sg A.2.2.1
  have g1 := slH_lt hA5 (k := A.2.2.1) (by omega)
  have hr1 : HR M1 1 A.1 := HR_rowE hA1 hI.1 (fun a a1 a2 => f1 a (by omega))
  refine g_aload_n (pc := 11) F dX7_leave_11 rfl ?_
  refine g_aload_n (pc := 12) F dX7_leave_12 rfl ?_
  refine g_getr (pc := 13) F fl_X7_12 (by assumption) rfl dX7_leave_13 ?_
  refine g_iload_n (pc := 16) F dX7_leave_16 rfl ?_
  refine g_iload_n (pc := 17) F dX7_leave_17 rfl ?_
  refine g_callV (pc := 18) (rf2 := 2) (rl2 := 40) F cs_X7_70 k1 rfl (by decide) (by rfl) (by rfl) (Nat.le_of_ble_eq_true (by rfl)) (by decide) dX7_leave_18 (c_X3_leaveGroup _ g _ 1 k1 A.1 t hr1 hi gx x) (fun v M2 hz => ?_)
  obtain ⟨rfl, n2, f2⟩ := hz
  refine g_callV (pc := 21) (rf2 := 1) (rl2 := 22) F cs_X7_50 k0 rfl (by decide) (by rfl) (by rfl) (Nat.le_of_ble_eq_true (by rfl)) (by decide) dX7_leave_21 (c_X7_settle _ g _ sg ⟨fun k hk => by rw [f2 64 (by omega), f1 64 (by omega)]; exact hA5.1 k hk, hA5.2⟩ A.2.2.1 hA3 (by rw [f2 63 (by omega), f1 63 (by omega)]; exact hA4) _) (fun v M3 hz => ?_)
  obtain ⟨rfl, n3⟩ := hz
  refine g_iret (pc := 24) F r dX7_leave_24 ?_
  exact ⟨rfl, CA_apply (r := oLeave A.1 gx x) ⟨hA1, hA2, hA3, hA4, hA5, hA6⟩ hI n1 f1 n2 f2 (ok_leave hi ht gx x) n3⟩
end
section
/-! the calls that only tell -/
def oNext (S : SV) (p : Int32) : Int32 := if p < 0 then -1000001 else nextW S p (cn S)
def oClockOf (S : SV) (x w : Int32) : Int32 := if inC S x ∧ (0 ≤ w ∧ w ≤ 13) then wv (cw S (ixN x)) (ixN w) else -1000001
def grW (S : SV) (gi : Nat) : Nat → Int32
  | 0 => gw S gi 0
  | 1 => gw S gi 1
  | 2 => leastW S (gw S gi 1) (cn S)
  | 3 => gw S gi 2
  | 4 => gw S gi 3
  | _ => sumW S (gw S gi 1) 9 (cn S)
def oGroupOf (S : SV) (x w : Int32) : Int32 := if inG S x ∧ (0 ≤ w ∧ w ≤ 5) then grW S (ixN x) (ixN w) else -1000001
def cntW (A : AS) : Nat → Int32
  | 0 => A.1 0
  | 1 => A.1 1
  | 2 => A.1 2
  | 3 => A.1 3
  | 4 => sumW A.1 63 8 (cn A.1)
  | 5 => sumW A.1 63 11 (cn A.1)
  | 6 => sumW A.1 63 12 (cn A.1)
  | 7 => aboutW A.1 (cn A.1)
  | 8 => oldestW A.1 (cn A.1)
  | 9 => nI A.2.2.1
  | _ => nI A.2.2.2.2
def oCount (A : AS) (w : Int32) : Int32 := if 0 ≤ w ∧ w ≤ 10 then cntW A (ixN w) else -1000001
theorem i_le_of {w : Int32} {n : Nat} (h0 : ¬ w < 0) (h1 : w ≤ nI n) (hn : n < 2147483648) : ∃ q, q ≤ n ∧ w = nI q := by
  obtain ⟨q, hq, rfl⟩ := nI_of h0
  exact ⟨q, (nI_leI hq hn).mp h1, rfl⟩
theorem CAs.fr {M : Mem} {A : AS} {sg : Nat → Nat} (h : CAs M A sg) : CA M A := ⟨sg, h⟩
set_option maxHeartbeats 4000000 in
set_option maxRecDepth 100000 in
theorem c_X7_next (l : Launch) (g : Gm) (M : Mem) (A : AS) (hA : CA M A) (hI : AI A) (x : Int32) : Cn l yX7_next cX7_next 2 (some .int) 2 47 g [.ref (ad g 0), .int x] M (fun v M2 => v = some (.int (oNext A.1 x)) ∧ M2 = M) := by
  refine Cn.intro (lv0 := [some (.ref (ad g 0)), some (.int x)]) 0 (by decide +kernel) (Nat.le_of_ble_eq_true rfl) rfl (fun X F r => ?_)
  obtain ⟨sg, hA1, hA2, hA3, hA4, hA5, hA6⟩ := hA
  obtain ⟨t, ht, hi⟩ := hI.1
  have k0 := kd0
  have k63 := kd63
  have k1 := kd1
  have hn := hi.cn_le
  have hm := hi.gn_le
  have k32 := kd32
  have k220 := kd220
  refine g_iload_n (pc := 0) F dX7_next_0 rfl ?_
  refine g_if_ge (pc := 1) (tgt := 7) F dX7_next_1 (by decide) (fun c1 => ?_) (fun c1 => ?_)
  · refine g_aload_n (pc := 7) F dX7_next_7 rfl ?_
    refine g_getr (pc := 8) F fl_X7_12 (by assumption) rfl dX7_next_8 ?_
    refine g_iload_n (pc := 11) F dX7_next_11 rfl ?_
    refine g_callV (pc := 12) (rf2 := 1) (rl2 := 25) F cs_X7_131 k1 rfl (by decide) (by rfl) (by rfl) (Nat.le_of_ble_eq_true (by rfl)) (by decide) dX7_next_12 (c_X3_clockInPlace _ g _ 1 k1 A.1 t hA1 hi x) (fun v M2 hz => ?_)
    obtain ⟨rfl, h2⟩ := hz
    rw [h2]
    refine g_iret (pc := 15) F r dX7_next_15 ?_
    exact ⟨by rw [show oNext A.1 x = nextW A.1 x (cn A.1) from if_neg (Int32.not_lt.mpr c1)], rfl⟩
  · refine g_ldc (pc := 4) F wk_X7_77 dX7_next_4 ?_
    refine g_iret (pc := 6) F r dX7_next_6 ?_
    exact ⟨by rw [show oNext A.1 x = -1000001 from if_pos (Int32.not_le.mp c1)], rfl⟩

set_option maxHeartbeats 4000000 in
set_option maxRecDepth 100000 in
theorem c_X7_clockOf (l : Launch) (g : Gm) (M : Mem) (A : AS) (hA : CA M A) (hI : AI A) (x w : Int32) : Cn l yX7_clockOf cX7_clockOf 4 (some .int) 2 41 g [.ref (ad g 0), .int x, .int w] M (fun v M2 => v = some (.int (oClockOf A.1 x w)) ∧ M2 = M) := by
  refine Cn.intro (lv0 := [some (.ref (ad g 0)), some (.int x), some (.int w), none]) 1 (by decide +kernel) (Nat.le_of_ble_eq_true rfl) rfl (fun X F r => ?_)
  obtain ⟨sg, hA1, hA2, hA3, hA4, hA5, hA6⟩ := hA
  obtain ⟨t, ht, hi⟩ := hI.1
  have k0 := kd0
  have k63 := kd63
  have k1 := kd1
  have hn := hi.cn_le
  have hm := hi.gn_le
  have k32 := kd32
  have k220 := kd220
  refine g_aload_n (pc := 0) F dX7_clockOf_0 rfl ?_
  refine g_getr (pc := 1) F fl_X7_12 (by assumption) rfl dX7_clockOf_1 ?_
  refine g_iload_n (pc := 4) F dX7_clockOf_4 rfl ?_
  refine g_callV (pc := 5) (rf2 := 0) (rl2 := 0) F cs_X7_73 k1 rfl (by decide) (by rfl) (by rfl) (Nat.le_of_ble_eq_true (by rfl)) (by decide) dX7_clockOf_5 (c_X3_clockAt _ g _ 1 k1 (cn A.1) hn.1 (hA1.1.trans hn.2) x) (fun v M2 hz => ?_)
  obtain ⟨h2, hz⟩ := hz
  rw [h2]
  rcases hz with ⟨i, hi6, hx, rfl⟩ | ⟨hno, rfl⟩
  · have hkc : kd (1 + 3 + 4 * i) = 0 := (kd_hall k1).2.2.1 i (by omega)
    refine g_astore_n (pc := 8) F dX7_clockOf_8 (by decide) rfl ?_
    refine g_aload_n (pc := 9) F dX7_clockOf_9 rfl ?_
    refine g_ifnull (pc := 10) F dX7_clockOf_10 ?_
    refine g_iload_n (pc := 13) F dX7_clockOf_13 rfl ?_
    refine g_if_lt (pc := 14) (tgt := 23) F dX7_clockOf_14 (by decide) (fun c14 => ?_) (fun c14 => ?_)
    · refine g_ldc (pc := 23) F wk_X7_77 dX7_clockOf_23 ?_
      refine g_iret (pc := 25) F r dX7_clockOf_25 ?_
      have e : oClockOf A.1 x w = -1000001 := if_neg (fun q => Int32.not_lt.mpr q.2.1 c14)
      rw [e]
      exact ⟨rfl, rfl⟩
    · refine g_iload_n (pc := 17) F dX7_clockOf_17 rfl ?_
      refine g_bipush (pc := 18) (v := 13) F dX7_clockOf_18 (by decide) ?_
      refine g_icmp_le (pc := 20) (tgt := 26) F dX7_clockOf_20 (by decide) (fun c20 => ?_) (fun c20 => ?_)
      · obtain ⟨q, hq, hwq⟩ := i_le_of (n := 13) c14 c20 (by decide)
        refine g_aload_n (pc := 26) F dX7_clockOf_26 rfl ?_
        refine g_iload_n (pc := 27) F dX7_clockOf_27 rfl ?_
        refine g_stk (st' := [.int (nI q), .ref (ad g (1 + 3 + 4 * i))]) (by rw [hwq] <;> rfl) ?_
        refine g_callV (pc := 28) (rf2 := 1) (rl2 := 20) F cs_X7_78 hkc rfl (by decide) (by rfl) (by rfl) (Nat.le_of_ble_eq_true (by rfl)) (by decide) dX7_clockOf_28 (c_X0_tell _ g _ (1 + 3 + 4 * i) hkc q (by omega)) (fun v M2 hz => ?_)
        obtain ⟨rfl, h3⟩ := hz
        rw [h3]
        refine g_iret (pc := 31) F r dX7_clockOf_31 ?_
        have e : oClockOf A.1 x w = wv (cw A.1 i) q := by
          unfold oClockOf
          rw [if_pos ⟨by rw [hx]; exact inC_of hi hi6, Int32.not_lt.mp c14, c20⟩, hx, ixN_nI (by omega), hwq, ixN_nI (by omega)]
        rw [e, ← tellV_wv (hA1.2.2.2.2.1 i hi6) q (by omega)]
        exact ⟨rfl, rfl⟩
      · refine g_ldc (pc := 23) F wk_X7_77 dX7_clockOf_23 ?_
        refine g_iret (pc := 25) F r dX7_clockOf_25 ?_
        have e : oClockOf A.1 x w = -1000001 := if_neg (fun q => c20 q.2.2)
        rw [e]
        exact ⟨rfl, rfl⟩
  · refine g_astore_nN (pc := 8) F dX7_clockOf_8 (by decide) rfl ?_
    refine g_aload_nN (pc := 9) F dX7_clockOf_9 rfl ?_
    refine g_ifnullN (pc := 10) (tgt := 23) F dX7_clockOf_10 (by decide) ?_
    refine g_ldc (pc := 23) F wk_X7_77 dX7_clockOf_23 ?_
    refine g_iret (pc := 25) F r dX7_clockOf_25 ?_
    have e : oClockOf A.1 x w = -1000001 := if_neg (fun q => inC_not hi hno q.1)
    rw [e]
    exact ⟨rfl, rfl⟩

set_option maxHeartbeats 4000000 in
set_option maxRecDepth 100000 in
theorem c_X7_groupOf (l : Launch) (g : Gm) (M : Mem) (A : AS) (hA : CA M A) (hI : AI A) (x w : Int32) : Cn l yX7_groupOf cX7_groupOf 4 (some .int) 3 65 g [.ref (ad g 0), .int x, .int w] M (fun v M2 => v = some (.int (oGroupOf A.1 x w)) ∧ M2 = M) := by
  refine Cn.intro (lv0 := [some (.ref (ad g 0)), some (.int x), some (.int w), none]) 1 (by decide +kernel) (Nat.le_of_ble_eq_true rfl) rfl (fun X F r => ?_)
  obtain ⟨sg, hA1, hA2, hA3, hA4, hA5, hA6⟩ := hA
  obtain ⟨t, ht, hi⟩ := hI.1
  have k0 := kd0
  have k63 := kd63
  have k1 := kd1
  have hn := hi.cn_le
  have hm := hi.gn_le
  have k32 := kd32
  have k220 := kd220
  refine g_aload_n (pc := 0) F dX7_groupOf_0 rfl ?_
  refine g_getr (pc := 1) F fl_X7_12 (by assumption) rfl dX7_groupOf_1 ?_
  refine g_iload_n (pc := 4) F dX7_groupOf_4 rfl ?_
  refine g_callV (pc := 5) (rf2 := 0) (rl2 := 0) F cs_X7_108 k1 rfl (by decide) (by rfl) (by rfl) (Nat.le_of_ble_eq_true (by rfl)) (by decide) dX7_groupOf_5 (c_X3_groupAt _ g _ 1 k1 (gn A.1) hm.1 (hA1.2.1.trans hm.2) x) (fun v M2 hz => ?_)
  obtain ⟨h2, hz⟩ := hz
  rw [h2]
  rcases hz with ⟨gi, hg6, hgx, rfl⟩ | ⟨hnoG, rfl⟩
  · have hkg : kd (1 + 27 + gi) = 2 := (kd_hall k1).2.2.2 gi (by omega)
    have hG := hA1.2.2.2.2.2 gi hg6
    refine g_astore_n (pc := 8) F dX7_groupOf_8 (by decide) rfl ?_
    refine g_aload_n (pc := 9) F dX7_groupOf_9 rfl ?_
    refine g_ifnull (pc := 10) F dX7_groupOf_10 ?_
    refine g_iload_n (pc := 13) F dX7_groupOf_13 rfl ?_
    refine g_if_lt (pc := 14) (tgt := 22) F dX7_groupOf_14 (by decide) (fun c14 => ?_) (fun c14 => ?_)
    · refine g_ldc (pc := 22) F wk_X7_77 dX7_groupOf_22 ?_
      refine g_iret (pc := 24) F r dX7_groupOf_24 ?_
      have e : oGroupOf A.1 x w = -1000001 := if_neg (fun q => Int32.not_lt.mpr q.2.1 c14)
      rw [e]
      exact ⟨rfl, rfl⟩
    · refine g_iload_n (pc := 17) F dX7_groupOf_17 rfl ?_
      refine g_iconst (pc := 18) (v := 5) F dX7_groupOf_18 (by decide) ?_
      refine g_icmp_le (pc := 19) (tgt := 25) F dX7_groupOf_19 (by decide) (fun c19 => ?_) (fun c19 => ?_)
      · obtain ⟨q, hq, hwq⟩ := i_le_of (n := 5) c14 c19 (by decide)
        refine g_iload_n (pc := 25) F dX7_groupOf_25 rfl ?_
        match q, hq, hwq with
        | 0, _, hwq =>
          refine g_tableIn (pc := 26) (tgt := 60) F dX7_groupOf_26 (by rw [hwq]; decide) (by rw [hwq]; decide) (by rw [hwq]; rfl) (by decide) ?_
          refine g_aload_n (pc := 60) F dX7_groupOf_60 rfl ?_
          refine g_geti (pc := 61) F fl_X7_112 (by assumption) rfl dX7_groupOf_61 ?_
          refine g_iret (pc := 64) F r dX7_groupOf_64 ?_
          have e : oGroupOf A.1 x w = gw A.1 gi 0 := by
            unfold oGroupOf
            rw [if_pos ⟨by rw [hgx]; exact inG_of hi hg6, Int32.not_lt.mp c14, c19⟩, hgx, ixN_nI (by omega), hwq, ixN_nI (by decide)]
            rfl
          rw [e]
          exact ⟨by rw [hG 0 (by decide)], rfl⟩
        | 1, _, hwq =>
          refine g_tableIn (pc := 26) (tgt := 65) F dX7_groupOf_26 (by rw [hwq]; decide) (by rw [hwq]; decide) (by rw [hwq]; rfl) (by decide) ?_
          refine g_aload_n (pc := 65) F dX7_groupOf_65 rfl ?_
          refine g_geti (pc := 66) F fl_X7_117 (by assumption) rfl dX7_groupOf_66 ?_
          refine g_iret (pc := 69) F r dX7_groupOf_69 ?_
          have e : oGroupOf A.1 x w = gw A.1 gi 1 := by
            unfold oGroupOf
            rw [if_pos ⟨by rw [hgx]; exact inG_of hi hg6, Int32.not_lt.mp c14, c19⟩, hgx, ixN_nI (by omega), hwq, ixN_nI (by decide)]
            rfl
          rw [e]
          exact ⟨by rw [hG 1 (by decide)], rfl⟩
        | 2, _, hwq =>
          refine g_tableIn (pc := 26) (tgt := 70) F dX7_groupOf_26 (by rw [hwq]; decide) (by rw [hwq]; decide) (by rw [hwq]; rfl) (by decide) ?_
          refine g_aload_n (pc := 70) F dX7_groupOf_70 rfl ?_
          refine g_getr (pc := 71) F fl_X7_12 (by assumption) rfl dX7_groupOf_71 ?_
          refine g_aload_n (pc := 74) F dX7_groupOf_74 rfl ?_
          refine g_geti (pc := 75) F fl_X7_117 (by assumption) rfl dX7_groupOf_75 ?_
          refine g_stk (st' := [.int (gw A.1 gi 1), .ref (ad g 1)]) (by rw [hG 1 (by decide)] <;> rfl) ?_
          refine g_callV (pc := 78) (rf2 := 0) (rl2 := 0) F cs_X7_120 k1 rfl (by decide) (by rfl) (by rfl) (Nat.le_of_ble_eq_true (by rfl)) (by decide) dX7_groupOf_78 (c_X3_leastRest _ g _ 1 k1 A.1 t hA1 hi (gw A.1 gi 1)) (fun v M2 hz => ?_)
          obtain ⟨rfl, h3⟩ := hz
          rw [h3]
          refine g_iret (pc := 81) F r dX7_groupOf_81 ?_
          have e : oGroupOf A.1 x w = leastW A.1 (gw A.1 gi 1) (cn A.1) := by
            unfold oGroupOf
            rw [if_pos ⟨by rw [hgx]; exact inG_of hi hg6, Int32.not_lt.mp c14, c19⟩, hgx, ixN_nI (by omega), hwq, ixN_nI (by decide)]
            rfl
          rw [e]
          exact ⟨rfl, rfl⟩
        | 3, _, hwq =>
          refine g_tableIn (pc := 26) (tgt := 82) F dX7_groupOf_26 (by rw [hwq]; decide) (by rw [hwq]; decide) (by rw [hwq]; rfl) (by decide) ?_
          refine g_aload_n (pc := 82) F dX7_groupOf_82 rfl ?_
          refine g_geti (pc := 83) F fl_X7_123 (by assumption) rfl dX7_groupOf_83 ?_
          refine g_iret (pc := 86) F r dX7_groupOf_86 ?_
          have e : oGroupOf A.1 x w = gw A.1 gi 2 := by
            unfold oGroupOf
            rw [if_pos ⟨by rw [hgx]; exact inG_of hi hg6, Int32.not_lt.mp c14, c19⟩, hgx, ixN_nI (by omega), hwq, ixN_nI (by decide)]
            rfl
          rw [e]
          exact ⟨by rw [hG 2 (by decide)], rfl⟩
        | 4, _, hwq =>
          refine g_tableIn (pc := 26) (tgt := 87) F dX7_groupOf_26 (by rw [hwq]; decide) (by rw [hwq]; decide) (by rw [hwq]; rfl) (by decide) ?_
          refine g_aload_n (pc := 87) F dX7_groupOf_87 rfl ?_
          refine g_geti (pc := 88) F fl_X7_125 (by assumption) rfl dX7_groupOf_88 ?_
          refine g_iret (pc := 91) F r dX7_groupOf_91 ?_
          have e : oGroupOf A.1 x w = gw A.1 gi 3 := by
            unfold oGroupOf
            rw [if_pos ⟨by rw [hgx]; exact inG_of hi hg6, Int32.not_lt.mp c14, c19⟩, hgx, ixN_nI (by omega), hwq, ixN_nI (by decide)]
            rfl
          rw [e]
          exact ⟨by rw [hG 3 (by decide)], rfl⟩
        | 5, _, hwq =>
          refine g_tableOut (pc := 26) (tgt := 92) F dX7_groupOf_26 (by rw [hwq]; decide) (by decide) ?_
          refine g_aload_n (pc := 92) F dX7_groupOf_92 rfl ?_
          refine g_getr (pc := 93) F fl_X7_12 (by assumption) rfl dX7_groupOf_93 ?_
          refine g_aload_n (pc := 96) F dX7_groupOf_96 rfl ?_
          refine g_geti (pc := 97) F fl_X7_117 (by assumption) rfl dX7_groupOf_97 ?_
          refine g_bipush (pc := 100) (v := 9) F dX7_groupOf_100 (by decide) ?_
          refine g_stk (st' := [.int (nI 9), .int (gw A.1 gi 1), .ref (ad g 1)]) (by rw [hG 1 (by decide)] <;> rfl) ?_
          refine g_callV (pc := 102) (rf2 := 2) (rl2 := 41) F cs_X7_128 k1 rfl (by decide) (by rfl) (by rfl) (Nat.le_of_ble_eq_true (by rfl)) (by decide) dX7_groupOf_102 (c_X3_sumOver _ g _ 1 k1 A.1 t hA1 hi (gw A.1 gi 1) 9 (by decide)) (fun v M2 hz => ?_)
          obtain ⟨rfl, h3⟩ := hz
          rw [h3]
          refine g_iret (pc := 105) F r dX7_groupOf_105 ?_
          have e : oGroupOf A.1 x w = sumW A.1 (gw A.1 gi 1) 9 (cn A.1) := by
            unfold oGroupOf
            rw [if_pos ⟨by rw [hgx]; exact inG_of hi hg6, Int32.not_lt.mp c14, c19⟩, hgx, ixN_nI (by omega), hwq, ixN_nI (by decide)]
            rfl
          rw [e]
          exact ⟨rfl, rfl⟩
      · refine g_ldc (pc := 22) F wk_X7_77 dX7_groupOf_22 ?_
        refine g_iret (pc := 24) F r dX7_groupOf_24 ?_
        have e : oGroupOf A.1 x w = -1000001 := if_neg (fun q => c19 q.2.2)
        rw [e]
        exact ⟨rfl, rfl⟩
  · refine g_astore_nN (pc := 8) F dX7_groupOf_8 (by decide) rfl ?_
    refine g_aload_nN (pc := 9) F dX7_groupOf_9 rfl ?_
    refine g_ifnullN (pc := 10) (tgt := 22) F dX7_groupOf_10 (by decide) ?_
    refine g_ldc (pc := 22) F wk_X7_77 dX7_groupOf_22 ?_
    refine g_iret (pc := 24) F r dX7_groupOf_24 ?_
    have e : oGroupOf A.1 x w = -1000001 := if_neg (fun q => inG_not hi hnoG q.1)
    rw [e]
    exact ⟨rfl, rfl⟩

set_option maxHeartbeats 4000000 in
set_option maxRecDepth 100000 in
theorem c_X7_count (l : Launch) (g : Gm) (M : Mem) (A : AS) (hA : CA M A) (hI : AI A) (w : Int32) : Cn l yX7_count cX7_count 2 (some .int) 3 65 g [.ref (ad g 0), .int w] M (fun v M2 => v = some (.int (oCount A w)) ∧ M2 = M) := by
  refine Cn.intro (lv0 := [some (.ref (ad g 0)), some (.int w)]) 0 (by decide +kernel) (Nat.le_of_ble_eq_true rfl) rfl (fun X F r => ?_)
  obtain ⟨sg, hA1, hA2, hA3, hA4, hA5, hA6⟩ := hA
  obtain ⟨t, ht, hi⟩ := hI.1
  have k0 := kd0
  have k63 := kd63
  have k1 := kd1
  have hn := hi.cn_le
  have hm := hi.gn_le
  have k32 := kd32
  have k220 := kd220
  refine g_iload_n (pc := 0) F dX7_count_0 rfl ?_
  by_cases hw : 0 ≤ w ∧ w ≤ 10
  · obtain ⟨q, hq, hwq⟩ := i_le_of (n := 10) (Int32.not_lt.mpr hw.1) hw.2 (by decide)
    match q, hq, hwq with
    | 0, _, hwq =>
      refine g_tableIn (pc := 1) (tgt := 60) F dX7_count_1 (by rw [hwq]; decide) (by rw [hwq]; decide) (by rw [hwq]; rfl) (by decide) ?_
      refine g_aload_n (pc := 60) F dX7_count_60 rfl ?_
      refine g_getr (pc := 61) F fl_X7_12 (by assumption) rfl dX7_count_61 ?_
      refine g_geti (pc := 64) F fl_X7_155 (by assumption) rfl dX7_count_64 ?_
      refine g_iret (pc := 67) F r dX7_count_67 ?_
      have e : oCount A w = A.1 0 := by
        unfold oCount
        rw [if_pos hw, hwq, ixN_nI (by decide)]
        rfl
      rw [e]
      exact ⟨by rw [hA1.1], rfl⟩
    | 1, _, hwq =>
      refine g_tableIn (pc := 1) (tgt := 68) F dX7_count_1 (by rw [hwq]; decide) (by rw [hwq]; decide) (by rw [hwq]; rfl) (by decide) ?_
      refine g_aload_n (pc := 68) F dX7_count_68 rfl ?_
      refine g_getr (pc := 69) F fl_X7_12 (by assumption) rfl dX7_count_69 ?_
      refine g_geti (pc := 72) F fl_X7_158 (by assumption) rfl dX7_count_72 ?_
      refine g_iret (pc := 75) F r dX7_count_75 ?_
      have e : oCount A w = A.1 1 := by
        unfold oCount
        rw [if_pos hw, hwq, ixN_nI (by decide)]
        rfl
      rw [e]
      exact ⟨by rw [hA1.2.1], rfl⟩
    | 2, _, hwq =>
      refine g_tableIn (pc := 1) (tgt := 76) F dX7_count_1 (by rw [hwq]; decide) (by rw [hwq]; decide) (by rw [hwq]; rfl) (by decide) ?_
      refine g_aload_n (pc := 76) F dX7_count_76 rfl ?_
      refine g_getr (pc := 77) F fl_X7_12 (by assumption) rfl dX7_count_77 ?_
      refine g_geti (pc := 80) F fl_X7_161 (by assumption) rfl dX7_count_80 ?_
      refine g_iret (pc := 83) F r dX7_count_83 ?_
      have e : oCount A w = A.1 2 := by
        unfold oCount
        rw [if_pos hw, hwq, ixN_nI (by decide)]
        rfl
      rw [e]
      exact ⟨by rw [hA1.2.2.1], rfl⟩
    | 3, _, hwq =>
      refine g_tableIn (pc := 1) (tgt := 84) F dX7_count_1 (by rw [hwq]; decide) (by rw [hwq]; decide) (by rw [hwq]; rfl) (by decide) ?_
      refine g_aload_n (pc := 84) F dX7_count_84 rfl ?_
      refine g_getr (pc := 85) F fl_X7_12 (by assumption) rfl dX7_count_85 ?_
      refine g_geti (pc := 88) F fl_X7_164 (by assumption) rfl dX7_count_88 ?_
      refine g_iret (pc := 91) F r dX7_count_91 ?_
      have e : oCount A w = A.1 3 := by
        unfold oCount
        rw [if_pos hw, hwq, ixN_nI (by decide)]
        rfl
      rw [e]
      exact ⟨by rw [hA1.2.2.2.1], rfl⟩
    | 4, _, hwq =>
      refine g_tableIn (pc := 1) (tgt := 92) F dX7_count_1 (by rw [hwq]; decide) (by rw [hwq]; decide) (by rw [hwq]; rfl) (by decide) ?_
      refine g_aload_n (pc := 92) F dX7_count_92 rfl ?_
      refine g_getr (pc := 93) F fl_X7_12 (by assumption) rfl dX7_count_93 ?_
      refine g_bipush (pc := 96) (v := 63) F dX7_count_96 (by decide) ?_
      refine g_bipush (pc := 98) (v := 8) F dX7_count_98 (by decide) ?_
      refine g_stk (st' := [.int (nI 8), .int 63, .ref (ad g 1)]) (by rfl) ?_
      refine g_callV (pc := 100) (rf2 := 2) (rl2 := 41) F cs_X7_128 k1 rfl (by decide) (by rfl) (by rfl) (Nat.le_of_ble_eq_true (by rfl)) (by decide) dX7_count_100 (c_X3_sumOver _ g _ 1 k1 A.1 t hA1 hi 63 8 (by decide)) (fun v M2 hz => ?_)
      obtain ⟨rfl, h2⟩ := hz
      rw [h2]
      refine g_iret (pc := 103) F r dX7_count_103 ?_
      have e : oCount A w = sumW A.1 63 8 (cn A.1) := by
        unfold oCount
        rw [if_pos hw, hwq, ixN_nI (by decide)]
        rfl
      rw [e]
      exact ⟨rfl, rfl⟩
    | 5, _, hwq =>
      refine g_tableIn (pc := 1) (tgt := 104) F dX7_count_1 (by rw [hwq]; decide) (by rw [hwq]; decide) (by rw [hwq]; rfl) (by decide) ?_
      refine g_aload_n (pc := 104) F dX7_count_104 rfl ?_
      refine g_getr (pc := 105) F fl_X7_12 (by assumption) rfl dX7_count_105 ?_
      refine g_bipush (pc := 108) (v := 63) F dX7_count_108 (by decide) ?_
      refine g_bipush (pc := 110) (v := 11) F dX7_count_110 (by decide) ?_
      refine g_stk (st' := [.int (nI 11), .int 63, .ref (ad g 1)]) (by rfl) ?_
      refine g_callV (pc := 112) (rf2 := 2) (rl2 := 41) F cs_X7_128 k1 rfl (by decide) (by rfl) (by rfl) (Nat.le_of_ble_eq_true (by rfl)) (by decide) dX7_count_112 (c_X3_sumOver _ g _ 1 k1 A.1 t hA1 hi 63 11 (by decide)) (fun v M2 hz => ?_)
      obtain ⟨rfl, h2⟩ := hz
      rw [h2]
      refine g_iret (pc := 115) F r dX7_count_115 ?_
      have e : oCount A w = sumW A.1 63 11 (cn A.1) := by
        unfold oCount
        rw [if_pos hw, hwq, ixN_nI (by decide)]
        rfl
      rw [e]
      exact ⟨rfl, rfl⟩
    | 6, _, hwq =>
      refine g_tableIn (pc := 1) (tgt := 116) F dX7_count_1 (by rw [hwq]; decide) (by rw [hwq]; decide) (by rw [hwq]; rfl) (by decide) ?_
      refine g_aload_n (pc := 116) F dX7_count_116 rfl ?_
      refine g_getr (pc := 117) F fl_X7_12 (by assumption) rfl dX7_count_117 ?_
      refine g_bipush (pc := 120) (v := 63) F dX7_count_120 (by decide) ?_
      refine g_bipush (pc := 122) (v := 12) F dX7_count_122 (by decide) ?_
      refine g_stk (st' := [.int (nI 12), .int 63, .ref (ad g 1)]) (by rfl) ?_
      refine g_callV (pc := 124) (rf2 := 2) (rl2 := 41) F cs_X7_128 k1 rfl (by decide) (by rfl) (by rfl) (Nat.le_of_ble_eq_true (by rfl)) (by decide) dX7_count_124 (c_X3_sumOver _ g _ 1 k1 A.1 t hA1 hi 63 12 (by decide)) (fun v M2 hz => ?_)
      obtain ⟨rfl, h2⟩ := hz
      rw [h2]
      refine g_iret (pc := 127) F r dX7_count_127 ?_
      have e : oCount A w = sumW A.1 63 12 (cn A.1) := by
        unfold oCount
        rw [if_pos hw, hwq, ixN_nI (by decide)]
        rfl
      rw [e]
      exact ⟨rfl, rfl⟩
    | 7, _, hwq =>
      refine g_tableIn (pc := 1) (tgt := 128) F dX7_count_1 (by rw [hwq]; decide) (by rw [hwq]; decide) (by rw [hwq]; rfl) (by decide) ?_
      refine g_aload_n (pc := 128) F dX7_count_128 rfl ?_
      refine g_getr (pc := 129) F fl_X7_12 (by assumption) rfl dX7_count_129 ?_
      refine g_callV (pc := 132) (rf2 := 0) (rl2 := 0) F cs_X7_167 k1 rfl (by decide) (by rfl) (by rfl) (Nat.le_of_ble_eq_true (by rfl)) (by decide) dX7_count_132 (c_X3_aboutToTell _ g _ 1 k1 A.1 t hA1 hi) (fun v M2 hz => ?_)
      obtain ⟨rfl, h2⟩ := hz
      rw [h2]
      refine g_iret (pc := 135) F r dX7_count_135 ?_
      have e : oCount A w = aboutW A.1 (cn A.1) := by
        unfold oCount
        rw [if_pos hw, hwq, ixN_nI (by decide)]
        rfl
      rw [e]
      exact ⟨rfl, rfl⟩
    | 8, _, hwq =>
      refine g_tableIn (pc := 1) (tgt := 136) F dX7_count_1 (by rw [hwq]; decide) (by rw [hwq]; decide) (by rw [hwq]; rfl) (by decide) ?_
      refine g_aload_n (pc := 136) F dX7_count_136 rfl ?_
      refine g_getr (pc := 137) F fl_X7_12 (by assumption) rfl dX7_count_137 ?_
      refine g_callV (pc := 140) (rf2 := 1) (rl2 := 30) F cs_X7_170 k1 rfl (by decide) (by rfl) (by rfl) (Nat.le_of_ble_eq_true (by rfl)) (by decide) dX7_count_140 (c_X3_greatestAge _ g _ 1 k1 A.1 t hA1 hi) (fun v M2 hz => ?_)
      obtain ⟨rfl, h2⟩ := hz
      rw [h2]
      refine g_iret (pc := 143) F r dX7_count_143 ?_
      have e : oCount A w = oldestW A.1 (cn A.1) := by
        unfold oCount
        rw [if_pos hw, hwq, ixN_nI (by decide)]
        rfl
      rw [e]
      exact ⟨rfl, rfl⟩
    | 9, _, hwq =>
      refine g_tableIn (pc := 1) (tgt := 144) F dX7_count_1 (by rw [hwq]; decide) (by rw [hwq]; decide) (by rw [hwq]; rfl) (by decide) ?_
      refine g_aload_n (pc := 144) F dX7_count_144 rfl ?_
      refine g_getr (pc := 145) F fl_X7_22 (by assumption) rfl dX7_count_145 ?_
      refine g_geti (pc := 148) F fl_X7_173 (by assumption) rfl dX7_count_148 ?_
      refine g_iret (pc := 151) F r dX7_count_151 ?_
      have e : oCount A w = nI A.2.2.1 := by
        unfold oCount
        rw [if_pos hw, hwq, ixN_nI (by decide)]
        rfl
      rw [e]
      exact ⟨by rw [hA4], rfl⟩
    | 10, _, hwq =>
      refine g_tableIn (pc := 1) (tgt := 152) F dX7_count_1 (by rw [hwq]; decide) (by rw [hwq]; decide) (by rw [hwq]; rfl) (by decide) ?_
      refine g_aload_n (pc := 152) F dX7_count_152 rfl ?_
      refine g_getr (pc := 153) F fl_X7_29 (by assumption) rfl dX7_count_153 ?_
      refine g_geti (pc := 156) F fl_X7_176 (by assumption) rfl dX7_count_156 ?_
      refine g_iret (pc := 159) F r dX7_count_159 ?_
      have e : oCount A w = nI A.2.2.2.2 := by
        unfold oCount
        rw [if_pos hw, hwq, ixN_nI (by decide)]
        rfl
      rw [e]
      exact ⟨by rw [hA2.2.1], rfl⟩
  · refine g_tableOut (pc := 1) (tgt := 160) F dX7_count_1 (by
      have a0 : (0 : Int32).toInt = 0 := rfl
      have a1 : (10 : Int32).toInt = 10 := rfl
      rcases Int32.lt_or_le w 0 with h | h
      · have := Int32.lt_iff_toInt_lt.mp h
        omega
      · have := Int32.lt_iff_toInt_lt.mp (Int32.not_le.mp (fun q => hw ⟨h, q⟩))
        omega) (by decide) ?_
    refine g_ldc (pc := 160) F wk_X7_77 dX7_count_160 ?_
    refine g_iret (pc := 162) F r dX7_count_162 ?_
    have e : oCount A w = -1000001 := if_neg hw
    rw [e]
    exact ⟨rfl, rfl⟩
end
section
/-! MAKING THE WORLD: the cells 0..n-1 are made, E says what stands in them; the next address is that of place n -/
def updE (E : Nat → va_E) (k : Nat) (x : va_E) : Nat → va_E := fun a => if a = k then x else E a
theorem updE_self (E : Nat → va_E) (k : Nat) (x : va_E) : updE E k x k = x := if_pos rfl
theorem updE_ne (E : Nat → va_E) {k a : Nat} (x : va_E) (h : a ≠ k) : updE E k x a = E a := if_neg h
def cW (g : Gm) (E : Nat → va_E) (n : Nat) : va_W := (List.range n).map (fun k => (ad g k, E k))
def cOK (g : Gm) (U : State) : Prop := wOK g U ∧ (∀ k, ad g k = gB g + k) ∧ va_AO RX0 U ∧ va_AO RX2 U ∧ va_AO RX3 U
theorem cOK.warm {g : Gm} {s U : State} (hW : s.WarmedH U.vm) (h : cOK g s) : cOK g U := ⟨h.1.warm hW, h.2.1, h.2.2.1.moved hW.alike, h.2.2.2.1.moved hW.alike, h.2.2.2.2.moved hW.alike⟩
def wP (g : Gm) (E : Nat → va_E) (n : Nat) (H : Heap) : Prop := va_P (gD g) vwCl (cW g E n) H ∧ H.size = gB g + n
theorem cW_at (g : Gm) (E : Nat → va_E) {n k : Nat} (hk : k < n) : (cW g E n)[k]? = some (ad g k, E k) := by simp [cW, hk]
theorem cW_D {g : Gm} {U : State} (h : cOK g U) (E : Nat → va_E) (n : Nat) : va_D (gA g) (cW g E n) := by
  have at' : ∀ {k : Nat} {q : Nat × va_E}, (cW g E n)[k]? = some q → k < n ∧ q.1 = ad g k := by
    intro k q hq
    have hk : k < n := by
      have := (List.getElem?_eq_some_iff.mp hq).1
      simpa [cW] using this
    rw [cW_at g E hk] at hq
    cases hq
    exact ⟨hk, rfl⟩
  refine ⟨fun i j p q hp hq e => ?_, fun k q hk => ?_⟩
  · have h1 := (at' hp).2
    have h2 := (at' hq).2
    have h3 := h.2.1 i
    have h4 := h.2.1 j
    omega
  · have h1 := (at' hk).2
    have h2 := h.2.1 k
    show gB g ≤ q.1
    omega
theorem cW_set (g : Gm) (E : Nat → va_E) {n k : Nat} (hk : k < n) (x : va_E) : (cW g E n).set k (ad g k, x) = cW g (updE E k x) n := by
  apply List.ext_getElem?
  intro i
  by_cases hi : i < n
  · by_cases hki : k = i
    · subst hki
      rw [List.getElem?_set_self (by simpa [cW] using hk), cW_at g _ hk, updE_self]
    · rw [List.getElem?_set_ne hki, cW_at g E hi, cW_at g _ hi, updE_ne _ _ (fun e => hki e.symm)]
  · rw [List.getElem?_eq_none (by simp [cW]; omega), List.getElem?_eq_none (by simp [cW]; omega)]
theorem cW_push (g : Gm) (E : Nat → va_E) {n a : Nat} (h : ad g n = a) (x : va_E) : cW g E n ++ [(a, x)] = cW g (updE E n x) (n + 1) := by
  unfold cW
  rw [List.range_succ, List.map_append]
  congr 1
  · apply List.map_congr_left
    intro k hk
    have := List.mem_range.mp hk
    rw [updE_ne _ _ (by omega)]
  · show [(a, x)] = [(ad g n, updE E n x n)]
    rw [h, updE_self]
def FK (X : XT) (g : Gm) (cc : ByteArray) (nL : Nat) (own : String) (rf rl rc rs : Nat) : Prop := match X with
  | (p, _, _, R, s, m, args, _, _, c, _, _, _) => CallFix p m c cc nL s args lw_ws own ∧ cOK g s ∧ R.frames = rf ∧ R.locals = rl ∧ R.cells = rc ∧ R.slots = rs ∧ gB g ≤ s.heap.size
def XI (X : XT) : Prop := match X with
  | (_, _, _, _, _, _, _, _, meth, _, _, _, _) => meth.name = "<init>"
def KG (X : XT) (g : Gm) (nL : Nat) (E : Nat → va_E) (n cs sl : Nat) (pc : Nat) (lv : List (Option Value)) (st : List Value) : Prop := match X with
  | (p, l, e, R, s, m, args, below, meth, c, _, _, Q) => ∀ (H : Heap) (locs : List Loc) (ls : Array Slot), wP g E n H → va_S (gA g) s.heap H locs → lhas ls nL lv → W p l e R s m args below meth c H locs cs sl Q (F0 m pc ls st)
section KROWS
variable {X : XT} {g : Gm} {cc : ByteArray} {nL : Nat} {own : String} {rf rl rc rs : Nat} {E : Nat → va_E} {n cs sl : Nat} {pc : Nat} {lv : List (Option Value)} {st : List Value}
theorem KG.sub (r : List (Option Value)) (hs : lsub lv r) (k : KG X g nL E n cs sl pc r st) : KG X g nL E n cs sl pc lv st := by
  obtain ⟨p, l, e, R, s, m, args, below, meth, c, cells, slots, Q⟩ := X
  intro H locs ls hP hS hL
  exact k H locs ls hP hS (hL.sub hs)
theorem KG.eE {E' : Nat → va_E} (h : E = E') (k : KG X g nL E' n cs sl pc lv st) : KG X g nL E n cs sl pc lv st := h ▸ k
theorem KG.cnt {n' cs' sl' : Nat} (h1 : n = n') (h2 : cs = cs') (h3 : sl = sl') (k : KG X g nL E n' cs' sl' pc lv st) : KG X g nL E n cs sl pc lv st := by
  subst h1
  subst h2
  subst h3
  exact k
theorem k_stk {st' : List Value} (h : st = st') (k : KG X g nL E n cs sl pc lv st') : KG X g nL E n cs sl pc lv st := h ▸ k
theorem k_iconst (F : FK X g cc nL own rf rl rc rs) {z : Int} {v : Int32} (hd : decode cc pc = .ok (.iconst z, 1)) (hv : Int32.ofInt z = v) (k : KG X g nL E n cs sl (pc + 1) lv (.int v :: st)) : KG X g nL E n cs sl pc lv st := by
  obtain ⟨p, l, e, R, s, m, args, below, meth, c, cells, slots, Q⟩ := X
  obtain ⟨⟨hx, hb, hml, hown, hts⟩, hW, hrf, hrl, hrc, hrs, hgb⟩ := F
  intro H locs ls hP hS hL
  exact lv_iconst hx hb hd hv (k H locs ls hP hS hL)
theorem k_bipush (F : FK X g cc nL own rf rl rc rs) {z : Int} {v : Int32} (hd : decode cc pc = .ok (.bipush z, 2)) (hv : (Int8.ofInt z).toInt32 = v) (k : KG X g nL E n cs sl (pc + 2) lv (.int v :: st)) : KG X g nL E n cs sl pc lv st := by
  obtain ⟨p, l, e, R, s, m, args, below, meth, c, cells, slots, Q⟩ := X
  obtain ⟨⟨hx, hb, hml, hown, hts⟩, hW, hrf, hrl, hrc, hrs, hgb⟩ := F
  intro H locs ls hP hS hL
  exact lv_bipush hx hb hd hv (k H locs ls hP hS hL)
theorem k_sipush (F : FK X g cc nL own rf rl rc rs) {z : Int} {v : Int32} (hd : decode cc pc = .ok (.sipush z, 3)) (hv : (Int16.ofInt z).toInt32 = v) (k : KG X g nL E n cs sl (pc + 3) lv (.int v :: st)) : KG X g nL E n cs sl pc lv st := by
  obtain ⟨p, l, e, R, s, m, args, below, meth, c, cells, slots, Q⟩ := X
  obtain ⟨⟨hx, hb, hml, hown, hts⟩, hW, hrf, hrl, hrc, hrs, hgb⟩ := F
  intro H locs ls hP hS hL
  exact lv_sipush hx hb hd hv (k H locs ls hP hS hL)
theorem k_aload_n (F : FK X g cc nL own rf rl rc rs) {i : Fin 4} {x : Nat} (hd : decode cc pc = .ok (.aload_n i, 1)) (hl : lg lv (i : Nat) = some (.ref x)) (k : KG X g nL E n cs sl (pc + 1) lv (.ref x :: st)) : KG X g nL E n cs sl pc lv st := by
  obtain ⟨p, l, e, R, s, m, args, below, meth, c, cells, slots, Q⟩ := X
  obtain ⟨⟨hx, hb, hml, hown, hts⟩, hW, hrf, hrl, hrc, hrs, hgb⟩ := F
  intro H locs ls hP hS hL
  exact lv_aload_n hx hb hd rfl (hL.2.2 _ _ hl) (k H locs ls hP hS hL)
theorem k_iload_n (F : FK X g cc nL own rf rl rc rs) {i : Fin 4} {x : Int32} (hd : decode cc pc = .ok (.iload_n i, 1)) (hl : lg lv (i : Nat) = some (.int x)) (k : KG X g nL E n cs sl (pc + 1) lv (.int x :: st)) : KG X g nL E n cs sl pc lv st := by
  obtain ⟨p, l, e, R, s, m, args, below, meth, c, cells, slots, Q⟩ := X
  obtain ⟨⟨hx, hb, hml, hown, hts⟩, hW, hrf, hrl, hrc, hrs, hgb⟩ := F
  intro H locs ls hP hS hL
  exact lv_iload_n hx hb hd rfl (hL.2.2 _ _ hl) (k H locs ls hP hS hL)
theorem k_istore_n (F : FK X g cc nL own rf rl rc rs) {i : Fin 4} {x : Int32} (hd : decode cc pc = .ok (.istore_n i, 1)) (hn : (i : Nat) < nL) (ho : lok lv (i : Nat) = true) (k : KG X g nL E n cs sl (pc + 1) (lst lv (i : Nat) (some (.int x))) st) : KG X g nL E n cs sl pc lv (.int x :: st) := by
  obtain ⟨p, l, e, R, s, m, args, below, meth, c, cells, slots, Q⟩ := X
  obtain ⟨⟨hx, hb, hml, hown, hts⟩, hW, hrf, hrl, hrc, hrs, hgb⟩ := F
  intro H locs ls hP hS hL
  exact lv_istore_n hx hb hd rfl hL.asc hn rfl (fun ls h => k H locs ls hP hS (lhas.set1 ho h))
theorem k_astore_n (F : FK X g cc nL own rf rl rc rs) {i : Fin 4} {x : Nat} (hd : decode cc pc = .ok (.astore_n i, 1)) (hn : (i : Nat) < nL) (ho : lok lv (i : Nat) = true) (k : KG X g nL E n cs sl (pc + 1) (lst lv (i : Nat) (some (.ref x))) st) : KG X g nL E n cs sl pc lv (.ref x :: st) := by
  obtain ⟨p, l, e, R, s, m, args, below, meth, c, cells, slots, Q⟩ := X
  obtain ⟨⟨hx, hb, hml, hown, hts⟩, hW, hrf, hrl, hrc, hrs, hgb⟩ := F
  intro H locs ls hP hS hL
  exact lv_astore_n hx hb hd rfl hL.asc hn rfl (fun ls h => k H locs ls hP hS (lhas.set1 ho h))
theorem k_iinc (F : FK X g cc nL own rf rl rc rs) {i : Nat} {z : Int} {x v : Int32} (hd : decode cc pc = .ok (.iinc i z, 3)) (hl : lg lv i = some (.int x)) (hv : x + Int32.ofInt z = v) (hn : i < nL) (ho : lok lv i = true) (k : KG X g nL E n cs sl (pc + 3) (lst lv i (some (.int v))) st) : KG X g nL E n cs sl pc lv st := by
  obtain ⟨p, l, e, R, s, m, args, below, meth, c, cells, slots, Q⟩ := X
  obtain ⟨⟨hx, hb, hml, hown, hts⟩, hW, hrf, hrl, hrc, hrs, hgb⟩ := F
  intro H locs ls hP hS hL
  obtain ⟨q, hq⟩ := List.getElem?_of_mem ((lasc_mem lv (i, .int x)).mpr hl)
  exact lv_iinc hx hb hd hL.asc hq hv hn rfl (fun ls h => k H locs ls hP hS (lhas.set1 ho h))
theorem k_dup (F : FK X g cc nL own rf rl rc rs) {v : Value} (hd : decode cc pc = .ok (.dup, 1)) (hv : v.category = 1) (k : KG X g nL E n cs sl (pc + 1) lv (v :: v :: st)) : KG X g nL E n cs sl pc lv (v :: st) := by
  obtain ⟨p, l, e, R, s, m, args, below, meth, c, cells, slots, Q⟩ := X
  obtain ⟨⟨hx, hb, hml, hown, hts⟩, hW, hrf, hrl, hrc, hrs, hgb⟩ := F
  intro H locs ls hP hS hL
  exact lv_dup hx hb hd hv (k H locs ls hP hS hL)
theorem k_goto (F : FK X g cc nL own rf rl rc rs) {off : Int} {tgt : Nat} (hd : decode cc pc = .ok (.goto off, 3)) (ht : (pc : Int) + off = (tgt : Int)) (k : KG X g nL E n cs sl tgt lv st) : KG X g nL E n cs sl pc lv st := by
  obtain ⟨p, l, e, R, s, m, args, below, meth, c, cells, slots, Q⟩ := X
  obtain ⟨⟨hx, hb, hml, hown, hts⟩, hW, hrf, hrl, hrc, hrs, hgb⟩ := F
  intro H locs ls hP hS hL
  exact lv_goto hx hb hd ht (k H locs ls hP hS hL)
theorem k_icmp_ge (F : FK X g cc nL own rf rl rc rs) {x y : Int32} {off : Int} {tgt : Nat} (hd : decode cc pc = .ok (.if_icmp .ge off, 3)) (ht : (pc : Int) + off = (tgt : Int)) (kt : y ≤ x → KG X g nL E n cs sl tgt lv st) (kf : ¬ y ≤ x → KG X g nL E n cs sl (pc + 3) lv st) : KG X g nL E n cs sl pc lv (.int y :: .int x :: st) := by
  obtain ⟨p, l, e, R, s, m, args, below, meth, c, cells, slots, Q⟩ := X
  obtain ⟨⟨hx, hb, hml, hown, hts⟩, hW, hrf, hrl, hrc, hrs, hgb⟩ := F
  intro H locs ls hP hS hL
  exact lv_icmp_ge hx hb hd ht (fun q => kt q H locs ls hP hS hL) (fun q => kf q H locs ls hP hS hL)
theorem k_objInit (F : FK X g cc nL own rf rl rc rs) {idx a : Nat} (w : Cond.methodLink own idx objectInit ∈ lw_ws) (hf : 1 ≤ rf) (hl : (st.map fun v => v.category).sum + 12 ≤ rl) (hd : decode cc pc = .ok (.invokespecial idx, 3)) (kk : KG X g nL E n cs sl (pc + 3) lv st) : KG X g nL E n cs sl pc lv (.ref a :: st) := by
  obtain ⟨p, l, e, R, s, m, args, below, meth, c, cells, slots, Q⟩ := X
  obtain ⟨⟨hx, hb, hml, hown, hts⟩, hW, hrf, hrl, hrc, hrs, hgb⟩ := F
  intro H locs ls hP hS hL
  refine W.objInit hx hb hown (hts _ w) (hts _ wi_objInit) (hts _ wc_objInit) rfl (by rw [hml]; exact hL.1) rfl hd (by rw [hrf]; exact hf) (by rw [hrl]; show 2 * 0 + _ + 12 ≤ rl; omega) ?_
  exact kk H locs ls hP hS hL
theorem k_new (F : FK X g cc nL own rf rl rc rs) {C : String} {T : u_T} {N ci idx : Nat} {ty : Nat → FieldType} {fs : List Value} (w1 : Cond.classLink own idx C ∈ lw_ws) (w2 : Cond.instantiable C N ∈ lw_ws) (w3 : Cond.initialized C ∈ lw_ws) (hc : vwCl[ci]? = some (C, T, N)) (hin : ∀ w ∈ u_ws C T N, w ∈ lw_ws) (hty : ∀ k, k < N → parseFieldDescriptor (T k).2.2.1 = some (ty k)) (hfs : ∀ j, j < N → defaultValue (ty j) = vp_V fs j) (h1 : cs + 1 ≤ rc) (h2 : sl + N ≤ rs) (hd : decode cc pc = .ok (.new idx, 3))
    (kk : KG X g nL (updE E n (.inr (ci, fs))) (n + 1) (cs + 1) (sl + N) (pc + 3) lv (.ref (ad g n) :: st)) : KG X g nL E n cs sl pc lv st := by
  obtain ⟨p, l, e, R, s, m, args, below, meth, c, cells, slots, Q⟩ := X
  obtain ⟨⟨hx, hb, hml, hown, hts⟩, hW, hrf, hrl, hrc, hrs, hgb⟩ := F
  intro H locs ls hP hS hL
  have hKn := hW.1.2.2.1.1 ci _ hc
  have hD := cW_D hW E n
  have hA : gA g H.size := by show gB g ≤ H.size; have := hP.2; omega
  have hadd : ad g n = H.size := by rw [hW.2.1, hP.2]
  refine W.newcK hx hb hown (hts _ w1) (hts _ w2) (hts _ w3) rfl hd (by rw [hrc]; exact h1) (by rw [hrs]; exact h2) hKn.2.1 rfl fun H1 kC hkC e1 z1 o1 => ?_
  have hk : ∀ (k : Nat) (x : Nat × va_E), (cW g E n)[k]? = some x → H1[x.1]? = H[x.1]? := fun k x hx => o1 x.1 ((hP.1 k x hx).lt)
  have hP1 : va_P (gD g) vwCl (cW g E n ++ [(H.size, .inr (ci, fs))]) H1 := by
    refine (hP.1.kept hk).app (fun k x hx => ?_)
    have hz : k < 1 := (List.getElem?_eq_some_iff.mp hx).1
    rw [show k = 0 by omega] at hx
    cases hx
    exact ⟨_, hc, (u_born ty hts hin hKn hkC e1 hty).to hfs⟩
  rw [cW_push g E hadd] at hP1
  have := kk H1 locs ls ⟨hP1, by have := hP.2; omega⟩ ⟨Nat.le_trans hS.1 (by omega), fun x h1 h2 => (o1 x (Nat.lt_of_lt_of_le h1 hS.1)).trans (hS.2.1 x h1 h2), hS.2.2⟩ hL
  rw [hadd] at this
  exact this
theorem k_newaT (F : FK X g cc nL own rf rl rc rs) {atype : ArrayType} {t0 N : Nat} {cA : ClassId} {v : Int32} {ty : FieldType} (w : Cond.arrayClass (newarray.typeOf atype) ∈ lw_ws) (hty : newarray.typeOf atype = ty) (hcA : ∀ s : State, va_RA s cA ty → s.vm.findClass ("[" ++ ty.toString) = some cA) (ht : (wTys g)[t0]? = some (cA, ty)) (hdef : defaultValue ty = .int 0) (hv : v = nI N) (hN : N * 8 ≤ 536870912) (hcb : componentBytes ty ≤ 8) (h1 : cs + 1 ≤ rc) (h2 : sl + N ≤ rs) (hd : decode cc pc = .ok (.newarray atype, 2))
    (kk : KG X g nL (updE E n (.inl (cA, N, .inl (fun _ => 0)))) (n + 1) (cs + 1) (sl + N) (pc + 2) lv (.ref (ad g n) :: st)) : KG X g nL E n cs sl pc lv (.int v :: st) := by
  obtain ⟨p, l, e, R, s, m, args, below, meth, c, cells, slots, Q⟩ := X
  obtain ⟨⟨hx, hb, hml, hown, hts⟩, hW, hrf, hrl, hrc, hrs, hgb⟩ := F
  intro H locs ls hP hS hL
  subst hty
  have hadd : ad g n = H.size := by rw [hW.2.1, hP.2]
  refine va_newaK hx hb (hts _ w) rfl hd rfl (by rw [hv]; exact nI_pos (by omega)) (N := N) (by rw [hv, nI_clamp (by omega)]) (Nat.le_trans (Nat.mul_le_mul_left N hcb) hN) (by rw [hrc]; exact h1) (by rw [hrs]; exact h2) rfl fun H1 cA' e1 z1 o1 hAr hNm => ?_
  have hcAe : cA' = cA := Option.some.inj (hNm.symm.trans (hcA s (hW.1.2.2.1.2 t0 _ ht).2))
  subst hcAe
  have hk : ∀ (k : Nat) (x : Nat × va_E), (cW g E n)[k]? = some x → H1[x.1]? = H[x.1]? := fun k x hx => o1 x.1 ((hP.1 k x hx).lt)
  have hP1 : va_P (gD g) vwCl (cW g E n ++ [(H.size, .inl (cA', N, .inl (fun _ => 0)))]) H1 := by
    refine (hP.1.kept hk).app (fun k x hx => ?_)
    have hz : k < 1 := (List.getElem?_eq_some_iff.mp hx).1
    rw [show k = 0 by omega] at hx
    cases hx
    show H1[H.size]? = some (vp_cell _ _)
    rw [vp_cell_i, e1, hdef]
  rw [cW_push g E hadd] at hP1
  have := kk H1 locs ls ⟨hP1, by have := hP.2; omega⟩ ⟨Nat.le_trans hS.1 (by omega), fun x h1 h2 => (o1 x (Nat.lt_of_lt_of_le h1 hS.1)).trans (hS.2.1 x h1 h2), hS.2.2⟩ hL
  rw [hadd] at this
  exact this
theorem k_newi (F : FK X g cc nL own rf rl rc rs) {N : Nat} {v : Int32} (hv : v = nI N) (hN : N * 8 ≤ 536870912) (h1 : cs + 1 ≤ rc) (h2 : sl + N ≤ rs) (hd : decode cc pc = .ok (.newarray .int, 2))
    (kk : KG X g nL (updE E n (.inl (gC g 0, N, .inl (fun _ => 0)))) (n + 1) (cs + 1) (sl + N) (pc + 2) lv (.ref (ad g n) :: st)) : KG X g nL E n cs sl pc lv (.int v :: st) :=
  k_newaT F (atype := .int) (ty := .int) (t0 := 0) wac_int rfl (fun _ h => h) rfl rfl hv hN (by decide) h1 h2 hd kk
theorem k_newc (F : FK X g cc nL own rf rl rc rs) {N : Nat} {v : Int32} (hv : v = nI N) (hN : N * 8 ≤ 536870912) (h1 : cs + 1 ≤ rc) (h2 : sl + N ≤ rs) (hd : decode cc pc = .ok (.newarray .char, 2))
    (kk : KG X g nL (updE E n (.inl (gC g 1, N, .inl (fun _ => 0)))) (n + 1) (cs + 1) (sl + N) (pc + 2) lv (.ref (ad g n) :: st)) : KG X g nL E n cs sl pc lv (.int v :: st) :=
  k_newaT F (atype := .char) (ty := .char) (t0 := 1) wac_char rfl (fun _ h => h) rfl rfl hv hN (by decide) h1 h2 hd kk
/-- an array of references -/
abbrev rarr (cA : ClassId) (N : Nat) (f : Nat → Option Nat) : va_E := .inl (cA, N, .inr (.inr (.inr (.inr f))))
theorem k_anew (F : FK X g cc nL own rf rl rc rs) {idx t0 N : Nat} {C : String} {cA : ClassId} {v : Int32} (w : Cond.classLink own idx C ∈ lw_ws) (hover : ∀ s : State, cOK g s → va_AO C s) (ht : (wTys g)[t0]? = some (cA, .object C)) (hv : v = nI N) (hN : N * 4 ≤ 536870912) (h1 : cs + 1 ≤ rc) (h2 : sl + N ≤ rs) (hd : decode cc pc = .ok (.anewarray idx, 3))
    (kk : KG X g nL (updE E n (rarr cA N (fun _ => none))) (n + 1) (cs + 1) (sl + N) (pc + 3) lv (.ref (ad g n) :: st)) : KG X g nL E n cs sl pc lv (.int v :: st) := by
  obtain ⟨p, l, e, R, s, m, args, below, meth, c, cells, slots, Q⟩ := X
  obtain ⟨⟨hx, hb, hml, hown, hts⟩, hW, hrf, hrl, hrc, hrs, hgb⟩ := F
  intro H locs ls hP hS hL
  have hadd : ad g n = H.size := by rw [hW.2.1, hP.2]
  have hNv : v.toNatClampNeg = N := by rw [hv, nI_clamp (by omega)]
  refine W.anew hx hb hown (hts _ w) (va_AO.use (hover s hW)) rfl hd rfl (by rw [hv]; exact nI_pos (by omega)) (by rw [hNv]; exact hN) (by rw [hrc]; exact h1) (by rw [hrs, hNv]; exact h2) fun cA' kA comp f1 f2 f3 f4 => ?_
  obtain ⟨_, _, -, -, -, hcC⟩ := (hW.1.2.2.1.2 t0 _ ht).2
  have hcAe : cA' = cA := Option.some.inj (f1.symm.trans hcC)
  subst hcAe
  rw [hNv]
  generalize hH1 : H.push ({ cls := cA', slots := Array.replicate N .null, vm := .none } : Cell) = H1
  have z1 : H1.size = H.size + 1 := by rw [← hH1, Array.size_push]
  have e1 : H1[H.size]? = some (arrV cA' N (fun _ => .null)) := by rw [← hH1, Array.getElem?_push_size, ← arrV_new]
  have o1 : ∀ q : Nat, q < H.size → H1[q]? = H[q]? := fun q hq => by rw [← hH1, Array.getElem?_push, if_neg (Nat.ne_of_lt hq)]
  have hk : ∀ (k : Nat) (x : Nat × va_E), (cW g E n)[k]? = some x → H1[x.1]? = H[x.1]? := fun k x hx => o1 x.1 ((hP.1 k x hx).lt)
  have hP1 : va_P (gD g) vwCl (cW g E n ++ [(H.size, rarr cA' N (fun _ => none))]) H1 := by
    refine (hP.1.kept hk).app (fun k x hx => ?_)
    have hz : k < 1 := (List.getElem?_eq_some_iff.mp hx).1
    rw [show k = 0 by omega] at hx
    cases hx
    show H1[H.size]? = some (vp_cell _ _)
    rw [vp_cell_q]
    exact e1
  rw [cW_push g E hadd] at hP1
  have := kk H1 locs ls ⟨hP1, by have := hP.2; omega⟩ ⟨Nat.le_trans hS.1 (by omega), fun x h1 h2 => (o1 x (Nat.lt_of_lt_of_le h1 hS.1)).trans (hS.2.1 x h1 h2), hS.2.2⟩ hL
  rw [hadd] at this
  exact this
/-- a field of an object that is being made: final or not -/
theorem k_put (F : FK X g cc nL own rf rl rc rs) (hI : XI X) {C : String} {T : u_T} {N ci k j idx : Nat} {ty0 : Nat → FieldType} {ty : FieldType} {fs : List Value} {v : Value} (hk : k < n) (hE : E k = .inr (ci, fs)) (hc : vwCl[ci]? = some (C, T, N)) (hin : ∀ w ∈ u_ws C T N, w ∈ lw_ws) (hj : j < N) (hty : ∀ k, k < N → parseFieldDescriptor (T k).2.2.1 = some (ty0 k)) (hnm : ∀ a, a < N → ∀ b, b < N → a ≠ b → (T a).2.1 ≠ (T b).2.1) (hl : Cond.fieldLink own idx (T j).1 (T j).2.1 (T j).2.2.1 ∈ lw_ws) (hdecl : (T j).1 = own) (ht0 : ty0 j = ty) (hn : narrow ty v = v) (hfit : fits ty v = true) (hlen : j < fs.length) (hd : decode cc pc = .ok (.putfield idx, 3))
    (kk : KG X g nL (updE E k (.inr (ci, fs.set j v))) n cs sl (pc + 3) lv st) : KG X g nL E n cs sl pc lv (v :: .ref (ad g k) :: st) := by
  obtain ⟨p, l, e, R, s, m, args, below, meth, c, cells, slots, Q⟩ := X
  obtain ⟨⟨hx, hb, hml, hown, hts⟩, hW, hrf, hrl, hrc, hrs, hgb⟩ := F
  intro H locs ls hP hS hL
  have he : (cW g E n)[k]? = some (ad g k, .inr (ci, fs)) := by rw [cW_at g E hk, hE]
  have hdty : parseFieldDescriptor (T j).2.2.1 = some ty := by rw [hty j hj, ht0]
  have hK := hW.1.2.2.1
  have hD := cW_D hW E n
  have hap := va_apart (own := own) hts hin ty0 hty hnm hK hc
  obtain ⟨r, h1, cell, q1, q2, q3, q4⟩ := hP.1 k _ he
  have hr : r = (C, T, N) := Option.some.inj (h1.symm.trans hc)
  subst hr
  obtain ⟨hKS, hfc, kC, hkC, hkind⟩ := hK.1 ci _ hc
  obtain ⟨cf, kf, fi, f, hi, hsl⟩ := hKS j hj
  have hlay := hts _ (hin _ (u_in_lay hj))
  have hst := (u_facts hfc hkC (u_lays hts hin hj) hi).1
  have fin : ∀ (H1 : Heap) (locs1 : List Loc), H1[ad g k]? = some (cell.setSlot (gD g |>.2 ci j) v) → H1.size = H.size → (∀ q : Nat, q ≠ ad g k → H1[q]? = H[q]?) → va_S (gA g) s.heap H1 locs1 → W p l e R s m args below meth c H1 locs1 cs sl Q (F0 m (pc + 3) ls st) := by
    intro H1 locs1 e1 e2 e3 hS1
    have hP1 := hP.1.set (e := .inr (ci, fs.set j v)) hD he ⟨_, hc, t_OB.to (V := updV (vp_V fs) j v) ⟨_, e1, q2, q3, t_set q4 hap hj v⟩ (fun i _ => vp_updV_set hlen v i)⟩ e3
    rw [cW_set g E hk] at hP1
    exact kk H1 locs1 ls ⟨hP1, e2.trans hP.2⟩ hS1 hL
  cases hf : (T j).2.2.2 with
  | false =>
    unfold u_lay at hlay
    rw [if_neg (by rw [hf]; decide)] at hlay
    have h6 := u_store hfc hkC hkind hlay hi hdty hn hfit
    refine W.putK hx hb (f := f) ⟨hown, hts _ hl, ⟨_, _, _, hi⟩, hst⟩ (by rw [q2]; exact h6) q1 q3 (by rw [hsl]; exact k2_hasslot (q4 j hj)) rfl rfl hd fun H1 e1 e2 e3 => ?_
    rw [hsl] at e1 ⊢
    exact fin H1 _ e1 e2 e3 (hS.put e2 e3 (hD.2 k _ he))
  | true =>
    unfold u_lay at hlay
    rw [if_pos hf] at hlay
    have hcf : m.cls = cf := by
      obtain ⟨_, _, c', _, _, _, -, -, hf', -, -, -, hown2, -⟩ := Cond.laysFinal_spec hlay
      have e1 : c' = cf := by have := hi.symm.trans hf'; simp at this; exact this.1.symm
      rw [hdecl] at hown2
      rw [← e1]
      exact Option.some.inj (hown.symm.trans hown2)
    have h6 := u_fits hfc hkC hkind (Or.inr hlay) hi hdty hn hfit
    refine W.putFinK hx hb hown (hts _ hl) hi hst hcf hI (by rw [q2]; exact h6) q1 q3 (by rw [hsl]; exact k2_hasslot (q4 j hj)) rfl rfl hd fun H1 e1 e2 e3 => ?_
    rw [hsl] at e1 ⊢
    exact fin H1 _ e1 e2 e3 (hS.put e2 e3 (hD.2 k _ he))
theorem k_get (F : FK X g cc nL own rf rl rc rs) {C : String} {T : u_T} {N ci k j idx : Nat} {fs : List Value} {v : Value} (hk : k < n) (hE : E k = .inr (ci, fs)) (hc : vwCl[ci]? = some (C, T, N)) (hin : ∀ w ∈ u_ws C T N, w ∈ lw_ws) (hj : j < N) (hl : Cond.fieldLink own idx (T j).1 (T j).2.1 (T j).2.2.1 ∈ lw_ws) (hv : fs[j]? = some v) (hd : decode cc pc = .ok (.getfield idx, 3))
    (kk : KG X g nL E n cs sl (pc + 3) lv (v :: st)) : KG X g nL E n cs sl pc lv (.ref (ad g k) :: st) := by
  obtain ⟨p, l, e, R, s, m, args, below, meth, c, cells, slots, Q⟩ := X
  obtain ⟨⟨hx, hb, hml, hown, hts⟩, hW, hrf, hrl, hrc, hrs, hgb⟩ := F
  intro H locs ls hP hS hL
  exact va_get hx hb hts hin hown hW.1.2.2.1 hP.1 k (by rw [cW_at g E hk, hE]) hc j hj (hts _ hl) (fun _ h => h) hv hd (kk H locs ls hP hS hL)
theorem k_alen (F : FK X g cc nL own rf rl rc rs) {k t0 : Nat} {cA : ClassId} {x : vp_A} {ty : FieldType} {v : Int32} (hk : k < n) (hE : E k = .inl (cA, x)) (ht : (wTys g)[t0]? = some (cA, ty)) (hv : Int32.ofNat x.1 = v) (hd : decode cc pc = .ok (.arraylength, 1))
    (kk : KG X g nL E n cs sl (pc + 1) lv (.int v :: st)) : KG X g nL E n cs sl pc lv (.ref (ad g k) :: st) := by
  obtain ⟨p, l, e, R, s, m, args, below, meth, c, cells, slots, Q⟩ := X
  obtain ⟨⟨hx, hb, hml, hown, hts⟩, hW, hrf, hrl, hrc, hrs, hgb⟩ := F
  intro H locs ls hP hS hL
  exact va_alen hx hb hW.1.2.2.1 hP.1 k t0 (by rw [cW_at g E hk, hE]) ht hv hd (kk H locs ls hP hS hL)
theorem k_aast (F : FK X g cc nL own rf rl rc rs) {k kv t0 ci N q : Nat} {cA : ClassId} {r : vw_C} {vs : List Value} {f : Nat → Option Nat} {i : Int32} (hk : k < n) (hE : E k = rarr cA N f) (ht : (wTys g)[t0]? = some (cA, .object r.1)) (hkv : kv < n) (hEv : E kv = .inr (ci, vs)) (hc : vwCl[ci]? = some r) (hi : i = nI q) (hq : q < N) (hN : N < 2147483648) (hd : decode cc pc = .ok (.aastore, 1))
    (kk : KG X g nL (updE E k (rarr cA N (va_up f q (some (ad g kv))))) n cs sl (pc + 1) lv st) : KG X g nL E n cs sl pc lv (.ref (ad g kv) :: .int i :: .ref (ad g k) :: st) := by
  obtain ⟨p, l, e, R, s, m, args, below, meth, c, cells, slots, Q⟩ := X
  obtain ⟨⟨hx, hb, hml, hown, hts⟩, hW, hrf, hrl, hrc, hrs, hgb⟩ := F
  intro H locs ls hP hS hL
  subst hi
  have hK := hW.1.2.2.1
  have hD := cW_D hW E n
  have ha : (cW g E n)[k]? = some (ad g k, rarr cA N f) := by rw [cW_at g E hk, hE]
  have hv : (cW g E n)[kv]? = some (ad g kv, .inr (ci, vs)) := by rw [cW_at g E hkv, hEv]
  have hqc : (nI q).toNatClampNeg = q := nI_clamp (by omega)
  obtain ⟨r', hr', cellV, g1, g2, g3, -⟩ := hP.1 kv _ hv
  have hcls := (hK.1 ci r hc).2
  obtain ⟨kA, comp, k1, k2, k3, -⟩ := (hK.2 t0 _ ht).2
  have hcomp : comp = (gD g).1 ci := Option.some.inj (k3.symm.trans hcls.1)
  subst hcomp
  obtain ⟨kC, hkC, -⟩ := hcls.2
  refine W.aast hx hb (hP.1 k _ ha) (fun q h => by cases h) (fun h => by cases h) k1 k2 rfl hkC ⟨nI_pos (by omega), by show _ < (arrV _ _ _).slots.size; rw [arrV_size, hqc]; exact hq⟩ g1 (fun q h => by rw [g3] at h; cases h) (by rw [g2]; exact hkC) (by rw [g2]; exact va_assign hcls) rfl rfl hd fun H1 e z oq => ?_
  have hat : va_at (gD g) vwCl (ad g k, rarr cA N (va_up f q (some (ad g kv)))) H1 := by
    show H1[ad g k]? = some (vp_cell _ _)
    rw [e]
    show some ((vp_cell cA (N, .inr (.inr (.inr (.inr f))))).setSlot _ _) = _
    rw [vp_cell_q, vp_cell_q, arrV_store, hqc]
    congr 2
    funext x
    by_cases hx : x = q
    · subst hx
      simp [updV, va_up, va_rf]
    · simp [updV, va_up, hx]
  have hP1 := hP.1.set hD ha hat oq
  rw [cW_set g E hk] at hP1
  exact kk H1 _ ls ⟨hP1, z.trans hP.2⟩ (hS.put z oq (hD.2 k _ ha)) hL
theorem k_iast (F : FK X g cc nL own rf rl rc rs) {k N q : Nat} {f : Nat → Int32} {i x : Int32} (hk : k < n) (hE : E k = .inl (gC g 0, N, .inl f)) (hi : i = nI q) (hq : q < N) (hN : N < 2147483648) (hd : decode cc pc = .ok (.iastore, 1))
    (kk : KG X g nL (updE E k (.inl (gC g 0, N, .inl (vf_upd f q x)))) n cs sl (pc + 1) lv st) : KG X g nL E n cs sl pc lv (.int x :: .int i :: .ref (ad g k) :: st) := by
  obtain ⟨p, l, e, R, s, m, args, below, meth, c, cells, slots, Q⟩ := X
  obtain ⟨⟨hx, hb, hml, hown, hts⟩, hW, hrf, hrl, hrc, hrs, hgb⟩ := F
  intro H locs ls hP hS hL
  subst hi
  have hK := hW.1.2.2.1
  have hD := cW_D hW E n
  have ha : (cW g E n)[k]? = some (ad g k, .inl (gC g 0, N, .inl f)) := by rw [cW_at g E hk, hE]
  have hqc : (nI q).toNatClampNeg = q := nI_clamp (by omega)
  refine W.iast hx hb (hP.1 k _ ha) ((hK.2 0 _ rfl).1 N (fun j => .int (f j))) (fun q => by cases q) (by show ¬ (nI q < 0 ∨ (arrV _ _ _).slots.size ≤ _); rw [arrV_size]; exact vp_in_nI hq (by omega)) rfl rfl hd fun H1 e z oq => ?_
  have hat : va_at (gD g) vwCl (ad g k, .inl (gC g 0, N, .inl (vf_upd f q x))) H1 := by
    show H1[ad g k]? = some (vp_cell _ _)
    rw [e]
    show some ((vp_cell (gC g 0) (N, .inl f)).setSlot _ _) = _
    rw [vp_cell_i, vp_cell_i, arrV_store, hqc]
    congr 2
    funext y
    by_cases hy : y = q
    · subst hy
      simp [updV, vf_upd]
    · simp [updV, vf_upd, hy]
  have hP1 := hP.1.set hD ha hat oq
  rw [cW_set g E hk] at hP1
  exact kk H1 _ ls ⟨hP1, z.trans hP.2⟩ (hS.put z oq (hD.2 k _ ha)) hL
end KROWS
abbrev qK (g : Gm) (E : Nat → va_E) (n : Nat) : State → Outcome → State → Prop := fun st o t => (o = .returned none ∧ wP g E n t.heap) ∧ va_F (gA g) st t
/-- the contract of a constructor: from E and n cells it comes to E2 and n2 cells; mc cells, ms slots are made -/
def KCn (l : Launch) (y : MethodName) (cy : ByteArray) (nL rf rl mc ms : Nat) (g : Gm) (av : List Value) (E : Nat → va_E) (n : Nat) (E2 : Nat → va_E) (n2 : Nat) : Prop :=
  Met l y (wsM y cy nL none) ({ frames := rf, cells := mc, slots := ms, locals := rl }) (va_Pc av (fun U => cOK g U ∧ wP g E n U.heap)) (fun _ st o t => qK g E2 n2 st o t) mc ms (gA g)
theorem kn_blind {g : Gm} {av : List Value} {E : Nat → va_E} {n : Nat} : FrameBlind (va_Pc av (fun U => cOK g U ∧ wP g E n U.heap)) := by
  intro a U fr mk q
  obtain ⟨q0, ⟨⟨q1, q2, q3, q4⟩, r1, r2, r3, r4⟩, q5⟩ := q
  refine ⟨q0, ⟨⟨q1, q2, va_K.moved (u := U) (U := U.calling fr mk a) (Vm.Alike.refl U.vm) q3, fun w hw => ?_⟩, r1, va_AO.moved (u := U) (U := U.calling fr mk a) (Vm.Alike.refl U.vm) r2, va_AO.moved (u := U) (U := U.calling fr mk a) (Vm.Alike.refl U.vm) r3, va_AO.moved (u := U) (U := U.calling fr mk a) (Vm.Alike.refl U.vm) r4⟩, q5⟩
  have h1 := nest_kind w hw
  refine va_Nw.same (u := U) ?_ rfl (q4 w hw)
  cases w <;> first | rfl | cases h1
theorem kn_call {p : Program} {l : Launch} {e : Env} {R : Room} {s : State} {m : MethodId} {args : Array Value} {below : List Frame} {meth : Method} {c : Code} {H : Heap} {locs : List Loc} {cells slots mc ms : Nat} {Q : State → Prop} {g : Gm} {pc : Nat} {ls : Array Slot} {rest st0 : List Value} {E2 : Nat → va_E} {n2 : Nat}
    (hr : va_Run p l e R s m args below meth c H locs cells slots mc ms (F0 m pc ls st0) rest (fun st o t => qK g E2 n2 st o t) (gA g)) (hS : va_S (gA g) s.heap H locs)
    (kk : ∀ (H1 : Heap) (locs1 : List Loc), wP g E2 n2 H1 → va_S (gA g) s.heap H1 locs1 → W p l e R s m args below meth c H1 locs1 (cells + mc) (slots + ms) Q (F0 m (pc + 3) ls rest)) : W p l e R s m args below meth c H locs cells slots Q (F0 m pc ls st0) := by
  intro T hT X
  obtain ⟨v, st₀, t, T', L, h0, X', hL, e1, e2, ⟨⟨hv, hM'⟩, hz, hk⟩, st⟩ := hr T hT X
  cases hv
  rw [h0] at hz hk
  obtain ⟨t2, a1, b1⟩ := kk T'.heap (locs ++ L) (by rw [e1]; exact hM')
    ⟨Nat.le_trans hS.1 (by rw [e1]; exact hz), fun q h1 h2 => by rw [e1, hk q (Nat.lt_of_lt_of_le h1 hS.1) h2]; exact hS.2.1 q h1 h2, fun q hq => by
      rcases List.mem_append.mp hq with h | h
      · exact hS.2.2 q h
      · exact hL q h⟩ T' rfl X'
  exact ⟨t2, st t2 a1, b1⟩
section KCALL
variable {X : XT} {g : Gm} {cc : ByteArray} {nL : Nat} {own : String} {rf rl rc rs : Nat} {E : Nat → va_E} {n cs sl : Nat} {pc : Nat} {lv : List (Option Value)} {st : List Value}
variable {y : MethodName} {cy : ByteArray} {nLy rf2 rl2 mc ms na idx a : Nat} {As rest : List Value} {E2 : Nat → va_E} {n2 : Nat}
theorem k_callI (F : FK X g cc nL own rf rl rc rs) (w1 : Cond.methodLink own idx y ∈ lw_ws) (w2 : Cond.instanceMethod y ∈ lw_ws) (w3 : Cond.initialized y.cls ∈ lw_ws) (w4 : Cond.code y cy nLy none ∈ lw_ws) (w5 : y.name = "<init>") (w6 : okName y na) (hn : As.length = na) (hst : st = As.reverse ++ .ref a :: rest) (hcat : (rest.map fun v => v.category).sum ≤ 8) (hR : rf2 + 1 ≤ rf ∧ 8 + (nLy + 11) + rl2 ≤ rl) (hC : cs + mc ≤ rc ∧ sl + ms ≤ rs) (hd : decode cc pc = .ok (.invokespecial idx, 3))
    (hM2 : KCn X.2.1 y cy nLy rf2 rl2 mc ms g (.ref a :: As) E n E2 n2) (kk : KG X g nL E2 n2 (cs + mc) (sl + ms) (pc + 3) lv rest) : KG X g nL E n cs sl pc lv st := by
  obtain ⟨p, l, e, R, s, m, args, below, meth, c, cells, slots, Q⟩ := X
  obtain ⟨⟨hx, hb, hml, hown, hts⟩, hW, hrf, hrl, hrc, hrs, hgb⟩ := F
  intro H locs ls hP hS hL
  refine kn_call (va_runI (ws := wsM y cy nLy none) (rm := { frames := rf2, cells := mc, slots := ms, locals := rl2 }) (As := As) (rest := rest) ⟨hx, hb, hml, hown, hts⟩ hM2 (cwI na hts (ws_good (wsM_in w4)) rfl rfl rfl (hts _ w3) (hts _ w1) (hts _ w2) w5 w6 ?_) ⟨kn_blind, fun U hU hWU => ⟨rfl, hW.warm hWU, by rw [hU]; exact hP⟩⟩ rfl hn hL.1 hst (lv_room hcat) hd ⟨by rw [hrc]; exact hC.1, by rw [hrs]; exact hC.2⟩) hS (fun H1 locs1 hP1 hS1 => kk H1 locs1 ls hP1 hS1 hL)
  rw [hrf, hrl]
  exact hR
theorem k_callIN (F : FK X g cc nL own rf rl rc rs) (w1 : Cond.methodLinkNest own idx y "RenewalClocks" ∈ nestW) (w2 : Cond.instanceMethod y ∈ lw_ws) (w3 : Cond.initialized y.cls ∈ lw_ws) (w4 : Cond.code y cy nLy none ∈ lw_ws) (w5 : y.name = "<init>") (w6 : okName y na) (hn : As.length = na) (hst : st = As.reverse ++ .ref a :: rest) (hcat : (rest.map fun v => v.category).sum ≤ 8) (hR : rf2 + 1 ≤ rf ∧ 8 + (nLy + 11) + rl2 ≤ rl) (hC : cs + mc ≤ rc ∧ sl + ms ≤ rs) (hd : decode cc pc = .ok (.invokespecial idx, 3))
    (hM2 : KCn X.2.1 y cy nLy rf2 rl2 mc ms g (.ref a :: As) E n E2 n2) (kk : KG X g nL E2 n2 (cs + mc) (sl + ms) (pc + 3) lv rest) : KG X g nL E n cs sl pc lv st := by
  obtain ⟨p, l, e, R, s, m, args, below, meth, c, cells, slots, Q⟩ := X
  obtain ⟨⟨hx, hb, hml, hown, hts⟩, hW, hrf, hrl, hrc, hrs, hgb⟩ := F
  intro H locs ls hP hS hL
  refine kn_call (va_runIN (host := "RenewalClocks") (ws := wsM y cy nLy none) (rm := { frames := rf2, cells := mc, slots := ms, locals := rl2 }) (As := As) (rest := rest) ⟨hx, hb, hml, hown, hts⟩ hM2 ⟨va_cnB na hts (ws_good (wsM_in w4)) rfl rfl rfl (hW.1.2.2.2 _ w1) (hts _ w3) w6 ?_, w5, hts _ w2⟩ ⟨kn_blind, fun U hU hWU => ⟨rfl, hW.warm hWU, by rw [hU]; exact hP⟩⟩ rfl hn hL.1 hst (lv_room hcat) hd ⟨by rw [hrc]; exact hC.1, by rw [hrs]; exact hC.2⟩) hS (fun H1 locs1 hP1 hS1 => kk H1 locs1 ls hP1 hS1 hL)
  rw [hrf, hrl]
  exact hR
end KCALL
def RK (X : XT) (g : Gm) (E : Nat → va_E) (n mc ms : Nat) : Prop := match X with
  | (_, _, _, _, s, _, args, below, meth, _, _, _, Q) => meth.sig.returnType = none ∧ meth.locks = false ∧ Q = MQ below (fun _ st o t => qK g E n st o t) args s mc ms (gA g)
theorem k_vret {X : XT} {g : Gm} {cc : ByteArray} {nL : Nat} {own : String} {rf rl rc rs : Nat} {E : Nat → va_E} {n mc ms : Nat} {pc : Nat} {lv : List (Option Value)} (F : FK X g cc nL own rf rl rc rs) (r : RK X g E n mc ms) (hd : decode cc pc = .ok (.return_, 1)) : KG X g nL E n mc ms pc lv [] := by
  obtain ⟨p, l, e, R, s, m, args, below, meth, c, cells, slots, Q⟩ := X
  obtain ⟨⟨hx, hb, hml, hown, hts⟩, hW, hrf, hrl, hrc, hrs, hgb⟩ := F
  intro H locs ls hP hS hL
  obtain ⟨hr, hlk, rfl⟩ := r
  exact W.vret hx hb hr (fun t ht hWt => ⟨⟨rfl, by rw [ht]; exact hP⟩, hS.F ht⟩) hS.2.2 hd hlk
theorem KCn.intro {l : Launch} {y : MethodName} {cy : ByteArray} {nL rf rl mc ms : Nat} {g : Gm} {av : List Value} {E : Nat → va_E} {n : Nat} {E2 : Nat → va_E} {n2 : Nat} {lv0 : List (Option Value)} (kp : Nat) (hy : plainName y.cls = true) (hyn : y.name = "<init>") (hlen : (lg_sl av).length ≤ nL) (hlv : lvE av ++ List.replicate kp none = lv0)
    (body : ∀ X : XT, FK X g cy nL y.cls rf rl mc ms → RK X g E2 n2 mc ms → XI X → KG X g nL E n 0 0 0 lv0 []) : KCn l y cy nL rf rl mc ms g av E n E2 n2 := by
  refine Met.ofW (ws := wsM y cy nL none) (ws' := lw_ws) (cc := cy) (maxL := nL) (ret := none) hy rfl ?_
  intro p e s m args below meth c s₁ B hml hv
  obtain ⟨rfl, hW, hP⟩ := hv
  have hts := atoms_spec (ws := wsM y cy nL none) B.pre
  have hl := lv_entry av (n := nL) hlen
  have hin : meth.name = "<init>" := (name_of_methodNamed B.named B.method).1.trans hyn
  rw [lg_entry_eq]
  refine body (p, l, e, _, s, m, av.toArray, below, meth, c, 0, 0, _) ⟨⟨B.exec, B.bytes, hml, findClass_of_methodNamed B.named, fun w hw => hts w (List.mem_cons_of_mem _ hw)⟩, hW, rfl, rfl, rfl, rfl, by rw [hP.2]; exact Nat.le_add_right _ _⟩ ⟨B.returns, B.notSynchronized, rfl⟩ hin s.heap [] _ hP va_S.rf (lhas.of hl (fun i v hi => ?_))
  rw [← hlv] at hi
  have := lvE_sound kp av 0 i v hi
  rwa [Nat.zero_add] at this
/-! entries that say the same of the heap -/
def eqE (x y : va_E) : Prop := x = y ∨ ∃ (cA : ClassId) (N : Nat) (f f' : Nat → Option Nat), x = rarr cA N f ∧ y = rarr cA N f' ∧ ∀ j, j < N → f j = f' j
theorem arrV_congr (cA : ClassId) {N : Nat} {f f' : Nat → Value} (h : ∀ j, j < N → f j = f' j) : arrV cA N f = arrV cA N f' := by
  unfold arrV
  congr 2
  funext j
  exact h j.val j.isLt
theorem wP.congr {g : Gm} {E E' : Nat → va_E} {n : Nat} {H : Heap} (h : wP g E n H) (e : ∀ k, k < n → eqE (E k) (E' k)) : wP g E' n H := by
  refine ⟨fun k q hq => ?_, h.2⟩
  have hk : k < n := by
    have := (List.getElem?_eq_some_iff.mp hq).1
    simpa [cW] using this
  rw [cW_at g _ hk] at hq
  cases hq
  have h1 := h.1 k _ (cW_at g E hk)
  rcases e k hk with e1 | ⟨cA, N, f, f', e1, e2, e3⟩
  · rw [← e1]
    exact h1
  · rw [e1] at h1
    rw [e2]
    show H[ad g k]? = some (vp_cell _ _)
    have h2 : H[ad g k]? = some (vp_cell cA (N, .inr (.inr (.inr (.inr f))))) := h1
    rw [h2, vp_cell_q, vp_cell_q, arrV_congr cA (f := fun j => va_rf (f j)) (f' := fun j => va_rf (f' j)) (fun j hj => by rw [e3 j hj])]
theorem KG.eqv {X : XT} {g : Gm} {nL : Nat} {E E' : Nat → va_E} {n cs sl pc : Nat} {lv : List (Option Value)} {st : List Value} (he : ∀ k, k < n → eqE (E k) (E' k)) (k : KG X g nL E' n cs sl pc lv st) : KG X g nL E n cs sl pc lv st := by
  obtain ⟨p, l, e, R, s, m, args, below, meth, c, cells, slots, Q⟩ := X
  intro H locs ls hP hS hL
  exact k H locs ls (hP.congr he) hS hL
end
section
/-! THE CONSTRUCTORS -/
/-- the memory as it is made: a hall draws from 1, the history's halls stand in their order, and so does the check's s -/
def M0 : Mem := fun k j => if kd k = 3 then (if j = 5 then 1 else 0) else if kd k = 17 then nI j else if k = 999 then (if j = 3 then 1 else 0) else 0
theorem M0_z {k : Nat} (h3 : kd k ≠ 3) (h17 : kd k ≠ 17) (hs : k ≠ 999) (j : Nat) : M0 k j = 0 := by
  unfold M0
  rw [if_neg h3, if_neg h17, if_neg hs]
theorem M0_zf {k : Nat} (h3 : kd k ≠ 3) (h17 : kd k ≠ 17) (hs : k ≠ 999) : M0 k = fun _ => 0 := funext fun j => M0_z h3 h17 hs j
theorem M0_h {k : Nat} (h3 : kd k = 3) (j : Nat) : M0 k j = if j = 5 then 1 else 0 := by
  unfold M0
  rw [if_pos h3]
def fin (g : Gm) (E : Nat → va_E) (a b : Nat) : Nat → va_E := fun k => if a ≤ k ∧ k < b then wE g M0 k else E k
theorem fin_in (g : Gm) (E : Nat → va_E) {a b k : Nat} (h1 : a ≤ k) (h2 : k < b) : fin g E a b k = wE g M0 k := if_pos ⟨h1, h2⟩
theorem fin_lo (g : Gm) (E : Nat → va_E) {a b k : Nat} (h : k < a) : fin g E a b k = E k := if_neg (by omega)
theorem fin_hi (g : Gm) (E : Nat → va_E) {a b k : Nat} (h : b ≤ k) : fin g E a b k = E k := if_neg (by omega)
theorem w0_0 (g : Gm) {k : Nat} (h : kd k = 0) : wE g M0 k = .inr (0, [.int 0, .ref (ad g (k + 1)), .int 0, .int 0, .int 0, .int 0, .int 0, .int 0, .ref (ad g (k + 2)), .ref (ad g (k + 3))]) := by
  rw [wE_obj g M0 h (by decide)]
  have z := M0_z (k := k) (by rw [h]; decide) (by rw [h]; decide) (fun e => by rw [e] at h; exact absurd h (by decide))
  simp only [tpl, wF, rv, z]
theorem w0_1 (g : Gm) {k : Nat} (h : kd k = 1) : wE g M0 k = .inr (1, [.int 0, .int 0, .int 0, .int 0, .int 0]) := by
  rw [wE_obj g M0 h (by decide)]
  have z := M0_z (k := k) (by rw [h]; decide) (by rw [h]; decide) (fun e => by rw [e] at h; exact absurd h (by decide))
  simp only [tpl, wF, rv, z]
theorem w0_2 (g : Gm) {k : Nat} (h : kd k = 2) : wE g M0 k = .inr (2, [.int 0, .int 0, .int 0, .int 0]) := by
  rw [wE_obj g M0 h (by decide)]
  have z := M0_z (k := k) (by rw [h]; decide) (by rw [h]; decide) (fun e => by rw [e] at h; exact absurd h (by decide))
  simp only [tpl, wF, rv, z]
theorem w0_3 (g : Gm) {k : Nat} (h : kd k = 3) : wE g M0 k = .inr (3, [.ref (ad g (k + 1)), .int 0, .ref (ad g (k + 2)), .int 0, .int 0, .int 1]) := by
  rw [wE_obj g M0 h (by decide)]
  have z := M0_h h
  simp only [tpl, wF, rv, z]
  rfl
theorem w0_9 (g : Gm) {k : Nat} (h : kd k = 9) : wE g M0 k = .inl (gC g 0, 4, .inl (fun _ => 0)) := by
  rw [wE_iarr g M0 h rfl, M0_zf (by rw [h]; decide) (by rw [h]; decide) (fun e => by rw [e] at h; exact absurd h (by decide))]
theorem w0_15 (g : Gm) {k : Nat} (h : kd k = 15) : wE g M0 k = rarr (gC g 2) 6 (fun j => some (ad g (k + 2 + 4 * j))) := by
  rw [wE_arr g M0 h (by decide)]
  rfl
theorem w0_16 (g : Gm) {k : Nat} (h : kd k = 16) : wE g M0 k = rarr (gC g 3) 4 (fun j => some (ad g (k + 25 + j))) := by
  rw [wE_arr g M0 h (by decide)]
  rfl
theorem updE_eq {E : Nat → va_E} {k : Nat} {x : va_E} (h : E k = x) : updE E k x = E := by
  funext a
  unfold updE
  split
  · next e => rw [e, h]
  · rfl
theorem wn_X3_27 : Cond.methodLinkNest RX3 27 yX0_init "RenewalClocks" ∈ nestW := List.mem_of_getElem? (i := 0) rfl
theorem wn_X0_17 : Cond.methodLinkNest RX0 17 yX1_init "RenewalClocks" ∈ nestW := List.mem_of_getElem? (i := 1) rfl
theorem wn_X3_28 : Cond.methodLinkNest RX3 28 yX2_init "RenewalClocks" ∈ nestW := List.mem_of_getElem? (i := 13) rfl
theorem wn_X7_28 : Cond.methodLinkNest RX7 28 yX6_init "RenewalClocks" ∈ nestW := List.mem_of_getElem? (i := 25) rfl
set_option maxHeartbeats 4000000 in
set_option maxRecDepth 100000 in
theorem k_X1_init (l : Launch) (g : Gm) (E : Nat → va_E) (n c : Nat) : KCn l yX1_init cX1_init 1 1 12 0 0 g [.ref (ad g c)] E n E n := by
  refine KCn.intro (lv0 := [some (.ref (ad g c))]) 0 (by decide +kernel) rfl (Nat.le_of_ble_eq_true rfl) rfl (fun X F r hI => ?_)
  refine k_aload_n (pc := 0) F dX1_init_0 rfl ?_
  refine k_objInit (pc := 1) F wl_X1_1 (by decide) (by decide) dX1_init_1 ?_
  exact k_vret (pc := 4) F r dX1_init_4

set_option maxHeartbeats 4000000 in
set_option maxRecDepth 100000 in
theorem k_X2_init (l : Launch) (g : Gm) (E : Nat → va_E) (n c : Nat) : KCn l yX2_init cX2_init 1 1 12 0 0 g [.ref (ad g c)] E n E n := by
  refine KCn.intro (lv0 := [some (.ref (ad g c))]) 0 (by decide +kernel) rfl (Nat.le_of_ble_eq_true rfl) rfl (fun X F r hI => ?_)
  refine k_aload_n (pc := 0) F dX2_init_0 rfl ?_
  refine k_objInit (pc := 1) F wl_X2_1 (by decide) (by decide) dX2_init_1 ?_
  exact k_vret (pc := 4) F r dX2_init_4

set_option maxHeartbeats 4000000 in
set_option maxRecDepth 100000 in
theorem k_X0_init (l : Launch) (g : Gm) (E : Nat → va_E) (c : Nat) (hc : kd c = 0) (hE : E c = .inr (0, [.int 0, .null, .int 0, .int 0, .int 0, .int 0, .int 0, .int 0, .null, .null])) : KCn l yX0_init cX0_init 1 2 32 3 14 g [.ref (ad g c)] E (c + 1) (fin g E c (c + 4)) (c + 4) := by
  refine KCn.intro (lv0 := [some (.ref (ad g c))]) 0 (by decide +kernel) rfl (Nat.le_of_ble_eq_true rfl) rfl (fun X F r hI => ?_)
  refine k_aload_n (pc := 0) F dX0_init_0 rfl ?_
  refine k_objInit (pc := 1) F wl_X0_3 (by decide) (by decide) dX0_init_1 ?_
  refine k_aload_n (pc := 4) F dX0_init_4 rfl ?_
  refine k_iconst (pc := 5) (v := 4) F dX0_init_5 (by decide) ?_
  refine k_newi (pc := 6) (N := 4) F rfl (by decide) (by decide) (by decide) dX0_init_6 ?_
  refine k_put (pc := 8) (k := c) (j := 1) F hI (by omega) (by rw [updE_ne _ _ (by omega)]; exact hE) rfl uin_X0 (by decide) tyX0_ok nmX0 wf_X0_9 rfl rfl rfl rfl (Nat.le_of_ble_eq_true rfl) dX0_init_8 ?_
  refine k_aload_n (pc := 11) F dX0_init_11 rfl ?_
  refine k_new (pc := 12) (ci := 1) (fs := [.int 0, .int 0, .int 0, .int 0, .int 0]) F wcl_X0_15 win_X1 wz_X1 rfl uin_X1 tyX1_ok (fun j hj => match j, hj with | 0, _ => rfl | 1, _ => rfl | 2, _ => rfl | 3, _ => rfl | 4, _ => rfl | k + 5, h => absurd h (by omega)) (by decide) (by decide) dX0_init_12 ?_
  refine k_dup (pc := 15) F dX0_init_15 rfl ?_
  refine k_callIN (pc := 16) (rf2 := 1) (rl2 := 12) (mc := 0) (ms := 0) (na := 0) F wn_X0_17 wi_X1_init wz_X1 wc_X1_init rfl (by decide) (by rfl) (by rfl) (Nat.le_of_ble_eq_true (by rfl)) (by decide) (by decide) dX0_init_16 (k_X1_init _ g _ (c + 3) (c + 2)) ?_
  refine k_put (pc := 19) (k := c) (j := 8) F hI (by omega) (by rw [updE_ne _ _ (by omega), updE_self] <;> rfl) rfl uin_X0 (by decide) tyX0_ok nmX0 wf_X0_18 rfl rfl rfl rfl (Nat.le_of_ble_eq_true rfl) dX0_init_19 ?_
  refine k_aload_n (pc := 22) F dX0_init_22 rfl ?_
  refine k_new (pc := 23) (ci := 1) (fs := [.int 0, .int 0, .int 0, .int 0, .int 0]) F wcl_X0_15 win_X1 wz_X1 rfl uin_X1 tyX1_ok (fun j hj => match j, hj with | 0, _ => rfl | 1, _ => rfl | 2, _ => rfl | 3, _ => rfl | 4, _ => rfl | k + 5, h => absurd h (by omega)) (by decide) (by decide) dX0_init_23 ?_
  refine k_dup (pc := 26) F dX0_init_26 rfl ?_
  refine k_callIN (pc := 27) (rf2 := 1) (rl2 := 12) (mc := 0) (ms := 0) (na := 0) F wn_X0_17 wi_X1_init wz_X1 wc_X1_init rfl (by decide) (by rfl) (by rfl) (Nat.le_of_ble_eq_true (by rfl)) (by decide) (by decide) dX0_init_27 (k_X1_init _ g _ (c + 4) (c + 3)) ?_
  refine k_put (pc := 30) (k := c) (j := 9) F hI (by omega) (by rw [updE_ne _ _ (by omega), updE_self] <;> rfl) rfl uin_X0 (by decide) tyX0_ok nmX0 wf_X0_22 rfl rfl rfl rfl (Nat.le_of_ble_eq_true rfl) dX0_init_30 ?_
  refine KG.eE (E' := fin g E c (c + 4)) ?_ ?_
  · obtain ⟨h1, h2, h3⟩ := kd_clk hc
    funext k
    by_cases a0 : k = c
    · subst a0
      rw [updE_self, fin_in g E (by omega) (by omega), w0_0 g hc]
      rfl
    · by_cases a3 : k = c + 3
      · subst a3
        rw [updE_ne _ _ (by omega), updE_self, fin_in g E (by omega) (by omega), w0_1 g h3]
      · by_cases a2 : k = c + 2
        · subst a2
          rw [updE_ne _ _ (by omega), updE_ne _ _ (by omega), updE_ne _ _ (by omega), updE_self, fin_in g E (by omega) (by omega), w0_1 g h2]
        · by_cases a1 : k = c + 1
          · subst a1
            rw [updE_ne _ _ (by omega), updE_ne _ _ (by omega), updE_ne _ _ (by omega), updE_ne _ _ (by omega), updE_ne _ _ (by omega), updE_self, fin_in g E (by omega) (by omega), w0_9 g h1]
          · rw [updE_ne _ _ a0, updE_ne _ _ a3, updE_ne _ _ a0, updE_ne _ _ a2, updE_ne _ _ a0, updE_ne _ _ a1]
            exact (if_neg (by omega)).symm
  · exact k_vret (pc := 33) F r dX0_init_33
end
section
/-! a hall is made: its clocks, its groups -/
def hallF (g : Gm) (h : Nat) : va_E := .inr (3, [.ref (ad g (h + 1)), .int 0, .ref (ad g (h + 2)), .int 0, .int 0, .int 1])
def hEA (g : Gm) (E : Nat → va_E) (h i : Nat) : Nat → va_E := fun k => if k = h then hallF g h else if k = h + 1 then rarr (gC g 2) 6 (fun j => if j < i then some (ad g (h + 3 + 4 * j)) else none) else if k = h + 2 then rarr (gC g 3) 4 (fun _ => none) else if h + 3 ≤ k ∧ k < h + 3 + 4 * i then wE g M0 k else E k
def hEB (g : Gm) (E : Nat → va_E) (h i : Nat) : Nat → va_E := fun k => if k = h then hallF g h else if k = h + 1 then rarr (gC g 2) 6 (fun j => some (ad g (h + 3 + 4 * j))) else if k = h + 2 then rarr (gC g 3) 4 (fun j => if j < i then some (ad g (h + 27 + j)) else none) else if h + 3 ≤ k ∧ k < h + 27 + i then wE g M0 k else E k
theorem hEA_h (g : Gm) (E : Nat → va_E) (h i : Nat) : hEA g E h i h = hallF g h := if_pos rfl
theorem hEA_1 (g : Gm) (E : Nat → va_E) (h i : Nat) : hEA g E h i (h + 1) = rarr (gC g 2) 6 (fun j => if j < i then some (ad g (h + 3 + 4 * j)) else none) := (if_neg (by omega)).trans (if_pos rfl)
theorem hEA_2 (g : Gm) (E : Nat → va_E) (h i : Nat) : hEA g E h i (h + 2) = rarr (gC g 3) 4 (fun _ => none) := (if_neg (by omega)).trans ((if_neg (by omega)).trans (if_pos rfl))
theorem hEA_in (g : Gm) (E : Nat → va_E) {h i k : Nat} (h1 : h + 3 ≤ k) (h2 : k < h + 3 + 4 * i) : hEA g E h i k = wE g M0 k := (if_neg (by omega)).trans ((if_neg (by omega)).trans ((if_neg (by omega)).trans (if_pos ⟨h1, h2⟩)))
theorem hEA_out (g : Gm) (E : Nat → va_E) {h i k : Nat} (h1 : k < h ∨ (h + 3 ≤ k ∧ h + 3 + 4 * i ≤ k)) : hEA g E h i k = E k := (if_neg (by omega)).trans ((if_neg (by omega)).trans ((if_neg (by omega)).trans (if_neg (by omega))))
theorem hEB_h (g : Gm) (E : Nat → va_E) (h i : Nat) : hEB g E h i h = hallF g h := if_pos rfl
theorem hEB_1 (g : Gm) (E : Nat → va_E) (h i : Nat) : hEB g E h i (h + 1) = rarr (gC g 2) 6 (fun j => some (ad g (h + 3 + 4 * j))) := (if_neg (by omega)).trans (if_pos rfl)
theorem hEB_2 (g : Gm) (E : Nat → va_E) (h i : Nat) : hEB g E h i (h + 2) = rarr (gC g 3) 4 (fun j => if j < i then some (ad g (h + 27 + j)) else none) := (if_neg (by omega)).trans ((if_neg (by omega)).trans (if_pos rfl))
theorem hEB_in (g : Gm) (E : Nat → va_E) {h i k : Nat} (h1 : h + 3 ≤ k) (h2 : k < h + 27 + i) : hEB g E h i k = wE g M0 k := (if_neg (by omega)).trans ((if_neg (by omega)).trans ((if_neg (by omega)).trans (if_pos ⟨h1, h2⟩)))
theorem hEB_out (g : Gm) (E : Nat → va_E) {h i k : Nat} (h1 : k < h ∨ (h + 3 ≤ k ∧ h + 27 + i ≤ k)) : hEB g E h i k = E k := (if_neg (by omega)).trans ((if_neg (by omega)).trans ((if_neg (by omega)).trans (if_neg (by omega))))
/-- where a place stands to a hall -/
theorem h_case (h k : Nat) : k = h ∨ k = h + 1 ∨ k = h + 2 ∨ (k < h ∨ h + 3 ≤ k) := by omega
theorem hEA_0 (g : Gm) (E : Nat → va_E) (h : Nat) (o1 o2 : va_E) : updE (updE (updE (updE (updE E (h + 1) (rarr (gC g 2) 6 (fun _ => none))) h o1) (h + 1 + 1) (rarr (gC g 3) 4 (fun _ => none))) h o2) h (hallF g h) = hEA g E h 0 := by
  funext k
  rcases h_case h k with rfl | rfl | rfl | hk
  · rw [updE_self, hEA_h]
  · rw [updE_ne _ _ (by omega), updE_ne _ _ (by omega), updE_ne _ _ (by omega), updE_ne _ _ (by omega), updE_self, hEA_1]
    congr
  · rw [updE_ne _ _ (by omega), updE_ne _ _ (by omega), hEA_2]
    exact updE_self _ _ _
  · rw [updE_ne _ _ (by omega), updE_ne _ _ (by omega), updE_ne _ _ (by omega), updE_ne _ _ (by omega), updE_ne _ _ (by omega), hEA_out g E (by omega)]
theorem up_lt {f : Nat → Option Nat} (v : Nat → Nat) (i : Nat) (hf : ∀ j, f j = if j < i then some (v j) else none) : va_up f i (some (v i)) = fun j => if j < i + 1 then some (v j) else none := by
  funext j
  unfold va_up
  by_cases h : j = i
  · rw [if_pos h, if_pos (by omega), h]
  · rw [if_neg h, hf]
    by_cases h2 : j < i
    · rw [if_pos h2, if_pos (by omega)]
    · rw [if_neg h2, if_neg (by omega)]
theorem hEA_s (g : Gm) (E : Nat → va_E) (h i : Nat) (d : va_E) : updE (fin g (updE (hEA g E h i) (h + 3 + 4 * i) d) (h + 3 + 4 * i) (h + 3 + 4 * i + 4)) (h + 1) (rarr (gC g 2) 6 (va_up (fun j => if j < i then some (ad g (h + 3 + 4 * j)) else none) i (some (ad g (h + 3 + 4 * i))))) = hEA g E h (i + 1) := by
  funext k
  rcases h_case h k with rfl | rfl | rfl | hk
  · rw [updE_ne _ _ (by omega), fin_lo g _ (by omega), updE_ne _ _ (by omega), hEA_h, hEA_h]
  · rw [updE_self, hEA_1, up_lt (fun j => ad g (h + 3 + 4 * j)) i (fun _ => rfl)]
  · rw [updE_ne _ _ (by omega), fin_lo g _ (by omega), updE_ne _ _ (by omega), hEA_2, hEA_2]
  · rw [updE_ne _ _ (by omega)]
    by_cases h1 : h + 3 ≤ k ∧ k < h + 3 + 4 * i
    · rw [fin_lo g _ (by omega), updE_ne _ _ (by omega), hEA_in g E h1.1 h1.2, hEA_in g E h1.1 (by omega)]
    · by_cases h2 : h + 3 + 4 * i ≤ k ∧ k < h + 3 + 4 * i + 4
      · rw [fin_in g _ h2.1 h2.2, hEA_in g E (by omega) (by omega)]
      · have e : fin g (updE (hEA g E h i) (h + 3 + 4 * i) d) (h + 3 + 4 * i) (h + 3 + 4 * i + 4) k = updE (hEA g E h i) (h + 3 + 4 * i) d k := if_neg h2
        rw [e, updE_ne _ _ (by omega), hEA_out g E (by omega), hEA_out g E (by omega)]
theorem hEAB (g : Gm) (E : Nat → va_E) (h k : Nat) : eqE (hEA g E h 6 k) (hEB g E h 0 k) := by
  rcases h_case h k with rfl | rfl | rfl | hk
  · rw [hEA_h, hEB_h]
    exact Or.inl rfl
  · rw [hEA_1, hEB_1]
    exact Or.inr ⟨_, _, _, _, rfl, rfl, fun j hj => if_pos hj⟩
  · rw [hEA_2, hEB_2]
    exact Or.inl (by congr)
  · by_cases h1 : h + 3 ≤ k ∧ k < h + 27
    · rw [hEA_in g E h1.1 (by omega), hEB_in g E h1.1 (by omega)]
      exact Or.inl rfl
    · rw [hEA_out g E (by omega), hEB_out g E (by omega)]
      exact Or.inl rfl
theorem hEB_s (g : Gm) (E : Nat → va_E) {h i : Nat} (hk2 : kd (h + 27 + i) = 2) : updE (updE (hEB g E h i) (h + 27 + i) (.inr (2, [.int 0, .int 0, .int 0, .int 0]))) (h + 2) (rarr (gC g 3) 4 (va_up (fun j => if j < i then some (ad g (h + 27 + j)) else none) i (some (ad g (h + 27 + i))))) = hEB g E h (i + 1) := by
  funext k
  rcases h_case h k with rfl | rfl | rfl | hk
  · rw [updE_ne _ _ (by omega), updE_ne _ _ (by omega), hEB_h, hEB_h]
  · rw [updE_ne _ _ (by omega), updE_ne _ _ (by omega), hEB_1, hEB_1]
  · rw [updE_self, hEB_2, up_lt (fun j => ad g (h + 27 + j)) i (fun _ => rfl)]
  · rw [updE_ne _ _ (by omega)]
    by_cases h2 : k = h + 27 + i
    · rw [h2, updE_self, hEB_in g E (by omega) (by omega), w0_2 g hk2]
    · rw [updE_ne _ _ h2]
      by_cases h1 : h + 3 ≤ k ∧ k < h + 27 + i
      · rw [hEB_in g E h1.1 h1.2, hEB_in g E h1.1 (by omega)]
      · rw [hEB_out g E (by omega), hEB_out g E (by omega)]
theorem hEB_f (g : Gm) (E : Nat → va_E) {h : Nat} (hh : kd h = 3) (k : Nat) : eqE (hEB g E h 4 k) (fin g E h (h + 31) k) := by
  obtain ⟨k1, k2, -, -⟩ := kd_hall hh
  rcases h_case h k with rfl | rfl | rfl | hk
  · rw [hEB_h, fin_in g E (by omega) (by omega), w0_3 g hh]
    exact Or.inl rfl
  · rw [hEB_1, fin_in g E (by omega) (by omega), w0_15 g k1]
    exact Or.inr ⟨_, _, _, _, rfl, rfl, fun j _ => by rw [show h + 1 + 2 + 4 * j = h + 3 + 4 * j by omega]⟩
  · rw [hEB_2, fin_in g E (by omega) (by omega), w0_16 g k2]
    exact Or.inr ⟨_, _, _, _, rfl, rfl, fun j hj => by rw [if_pos hj, show h + 2 + 25 + j = h + 27 + j by omega]⟩
  · by_cases h1 : h + 3 ≤ k ∧ k < h + 31
    · rw [hEB_in g E h1.1 (by omega), fin_in g E (by omega) (by omega)]
      exact Or.inl rfl
    · rw [hEB_out g E (by omega)]
      refine Or.inl ?_
      exact (if_neg (by omega)).symm
set_option maxHeartbeats 4000000 in
set_option maxRecDepth 100000 in
theorem k_X3_init (l : Launch) (g : Gm) (E : Nat → va_E) (h : Nat) (hh : kd h = 3) (hE : E h = .inr (3, [.null, .int 0, .null, .int 0, .int 0, .int 0])) : KCn l yX3_init cX3_init 2 3 52 30 170 g [.ref (ad g h)] E (h + 1) (fin g E h (h + 31)) (h + 31) := by
  refine KCn.intro (lv0 := [some (.ref (ad g h)), none]) 1 (by decide +kernel) rfl (Nat.le_of_ble_eq_true rfl) rfl (fun X F r hI => ?_)
  have L2 : ∀ (n i : Nat) (y : Int32), i + n = 4 → y = nI i → KG X g 2 (hEB g E h i) (h + 27 + i) (26 + i) (154 + 4 * i) 58 [some (.ref (ad g h)), some (.int y)] [] := by
    intro n
    induction n with
    | zero =>
      intro i y hin hy
      obtain rfl : i = 4 := by omega
      refine k_iload_n (pc := 58) F dX3_init_58 rfl ?_
      refine k_aload_n (pc := 59) F dX3_init_59 rfl ?_
      refine k_get (pc := 60) (k := h) (j := 2) F (by omega) (hEB_h g E h 4) rfl uin_X3 (by decide) wf_X3_19 rfl dX3_init_60 ?_
      refine k_alen (pc := 63) (k := h + 2) (t0 := 3) F (by omega) (hEB_2 g E h 4) rfl rfl dX3_init_63 ?_
      refine k_icmp_ge (pc := 64) (tgt := 86) F dX3_init_64 (by decide) (fun c64 => ?_) (fun c64 => ?_)
      · refine KG.eqv (fun k _ => hEB_f g E hh k) ?_
        refine KG.cnt (n' := h + 31) (cs' := 30) (sl' := 170) (by omega) (by omega) (by omega) ?_
        exact k_vret (pc := 86) F r dX3_init_86
      · exact absurd (by rw [hy]; exact nI_le (a := 4) (b := 4) (by decide) (by decide)) c64
    | succ n ih =>
      intro i y hin hy
      refine k_iload_n (pc := 58) F dX3_init_58 rfl ?_
      refine k_aload_n (pc := 59) F dX3_init_59 rfl ?_
      refine k_get (pc := 60) (k := h) (j := 2) F (by omega) (hEB_h g E h i) rfl uin_X3 (by decide) wf_X3_19 rfl dX3_init_60 ?_
      refine k_alen (pc := 63) (k := h + 2) (t0 := 3) F (by omega) (hEB_2 g E h i) rfl rfl dX3_init_63 ?_
      refine k_icmp_ge (pc := 64) (tgt := 86) F dX3_init_64 (by decide) (fun c64 => ?_) (fun c64 => ?_)
      · exact absurd c64 (by rw [hy]; exact nI_ge (a := i) (b := 4) (by omega) (by decide))
      · refine k_aload_n (pc := 67) F dX3_init_67 rfl ?_
        refine k_get (pc := 68) (k := h) (j := 2) F (by omega) (hEB_h g E h i) rfl uin_X3 (by decide) wf_X3_19 rfl dX3_init_68 ?_
        refine k_iload_n (pc := 71) F dX3_init_71 rfl ?_
        refine k_new (pc := 72) (ci := 2) (fs := [.int 0, .int 0, .int 0, .int 0]) F wcl_X3_17 win_X2 wz_X2 rfl uin_X2 tyX2_ok (fun j hj => match j, hj with | 0, _ => rfl | 1, _ => rfl | 2, _ => rfl | 3, _ => rfl | k + 4, h => absurd h (by omega)) (by omega) (by omega) dX3_init_72 ?_
        refine k_dup (pc := 75) F dX3_init_75 rfl ?_
        refine k_callIN (pc := 76) (rf2 := 1) (rl2 := 12) (mc := 0) (ms := 0) (na := 0) F wn_X3_28 wi_X2_init wz_X2 wc_X2_init rfl (by decide) (by rfl) (by rfl) (Nat.le_of_ble_eq_true (by rfl)) (by decide) ⟨by omega, by omega⟩ dX3_init_76 (k_X2_init _ g _ (h + 27 + i + 1) (h + 27 + i)) ?_
        refine k_aast (pc := 79) (k := h + 2) (kv := h + 27 + i) (t0 := 3) (ci := 2) (r := (RX2, TX2, 4)) (N := 4) (q := i) F (by omega) (by rw [updE_ne _ _ (by omega)]; exact hEB_2 g E h i) rfl (by omega) (updE_self _ _ _) rfl hy (by omega) (by decide) dX3_init_79 ?_
        refine k_iinc (pc := 80) F dX3_init_80 rfl rfl (by decide) rfl ?_
        refine k_goto (pc := 83) (tgt := 58) F dX3_init_83 (by decide) ?_
        refine KG.eE (hEB_s g E ((kd_hall hh).2.2.2 i (by omega))) ?_
        refine KG.cnt (n' := h + 27 + (i + 1)) (cs' := 26 + (i + 1)) (sl' := 154 + 4 * (i + 1)) (by omega) (by omega) (by omega) ?_
        exact ih (i + 1) _ (by omega) (by rw [hy]; exact nI_1 i)
  have L1 : ∀ (n i : Nat) (y : Int32), i + n = 6 → y = nI i → KG X g 2 (hEA g E h i) (h + 3 + 4 * i) (2 + 4 * i) (10 + 24 * i) 28 [some (.ref (ad g h)), some (.int y)] [] := by
    intro n
    induction n with
    | zero =>
      intro i y hin hy
      obtain rfl : i = 6 := by omega
      refine k_iload_n (pc := 28) F dX3_init_28 rfl ?_
      refine k_aload_n (pc := 29) F dX3_init_29 rfl ?_
      refine k_get (pc := 30) (k := h) (j := 0) F (by omega) (hEA_h g E h 6) rfl uin_X3 (by decide) wf_X3_11 rfl dX3_init_30 ?_
      refine k_alen (pc := 33) (k := h + 1) (t0 := 2) F (by omega) (hEA_1 g E h 6) rfl rfl dX3_init_33 ?_
      refine k_icmp_ge (pc := 34) (tgt := 56) F dX3_init_34 (by decide) (fun c34 => ?_) (fun c34 => ?_)
      · refine k_iconst (pc := 56) (v := 0) F dX3_init_56 (by decide) ?_
        refine k_istore_n (pc := 57) F dX3_init_57 (by decide) rfl ?_
        refine KG.eqv (fun k _ => hEAB g E h k) ?_
        refine KG.cnt (n' := h + 27 + 0) (cs' := 26 + 0) (sl' := 154 + 4 * 0) (by omega) (by omega) (by omega) ?_
        exact L2 4 0 _ (by omega) nI_0.symm
      · exact absurd (by rw [hy]; exact nI_le (a := 6) (b := 6) (by decide) (by decide)) c34
    | succ n ih =>
      intro i y hin hy
      have hkc := (kd_hall hh).2.2.1 i (by omega)
      refine k_iload_n (pc := 28) F dX3_init_28 rfl ?_
      refine k_aload_n (pc := 29) F dX3_init_29 rfl ?_
      refine k_get (pc := 30) (k := h) (j := 0) F (by omega) (hEA_h g E h i) rfl uin_X3 (by decide) wf_X3_11 rfl dX3_init_30 ?_
      refine k_alen (pc := 33) (k := h + 1) (t0 := 2) F (by omega) (hEA_1 g E h i) rfl rfl dX3_init_33 ?_
      refine k_icmp_ge (pc := 34) (tgt := 56) F dX3_init_34 (by decide) (fun c34 => ?_) (fun c34 => ?_)
      · exact absurd c34 (by rw [hy]; exact nI_ge (a := i) (b := 6) (by omega) (by decide))
      · refine k_aload_n (pc := 37) F dX3_init_37 rfl ?_
        refine k_get (pc := 38) (k := h) (j := 0) F (by omega) (hEA_h g E h i) rfl uin_X3 (by decide) wf_X3_11 rfl dX3_init_38 ?_
        refine k_iload_n (pc := 41) F dX3_init_41 rfl ?_
        refine k_new (pc := 42) (ci := 0) (fs := [.int 0, .null, .int 0, .int 0, .int 0, .int 0, .int 0, .int 0, .null, .null]) F wcl_X3_9 win_X0 wz_X0 rfl uin_X0 tyX0_ok (fun j hj => match j, hj with | 0, _ => rfl | 1, _ => rfl | 2, _ => rfl | 3, _ => rfl | 4, _ => rfl | 5, _ => rfl | 6, _ => rfl | 7, _ => rfl | 8, _ => rfl | 9, _ => rfl | k + 10, h => absurd h (by omega)) (by omega) (by omega) dX3_init_42 ?_
        refine k_dup (pc := 45) F dX3_init_45 rfl ?_
        refine k_callIN (pc := 46) (rf2 := 2) (rl2 := 32) (mc := 3) (ms := 14) (na := 0) F wn_X3_27 wi_X0_init wz_X0 wc_X0_init rfl (by decide) (by rfl) (by rfl) (Nat.le_of_ble_eq_true (by rfl)) (by decide) ⟨by omega, by omega⟩ dX3_init_46 (k_X0_init _ g _ (h + 3 + 4 * i) hkc (updE_self _ _ _)) ?_
        refine k_aast (pc := 49) (k := h + 1) (kv := h + 3 + 4 * i) (t0 := 2) (ci := 0) (r := (RX0, TX0, 10)) (N := 6) (q := i) F (by omega) (by rw [fin_lo g _ (by omega), updE_ne _ _ (by omega)]; exact hEA_1 g E h i) rfl (by omega) (by rw [fin_in g _ (Nat.le_refl _) (by omega)]; exact w0_0 g hkc) rfl hy (by omega) (by decide) dX3_init_49 ?_
        refine k_iinc (pc := 50) F dX3_init_50 rfl rfl (by decide) rfl ?_
        refine k_goto (pc := 53) (tgt := 28) F dX3_init_53 (by decide) ?_
        refine KG.eE (hEA_s g E h i _) ?_
        refine KG.cnt (n' := h + 3 + 4 * (i + 1)) (cs' := 2 + 4 * (i + 1)) (sl' := 10 + 24 * (i + 1)) (by omega) (by omega) (by omega) ?_
        exact ih (i + 1) _ (by omega) (by rw [hy]; exact nI_1 i)
  refine k_aload_n (pc := 0) F dX3_init_0 rfl ?_
  refine k_objInit (pc := 1) F wl_X3_3 (by decide) (by decide) dX3_init_1 ?_
  refine k_aload_n (pc := 4) F dX3_init_4 rfl ?_
  refine k_bipush (pc := 5) (v := 6) F dX3_init_5 (by decide) ?_
  refine k_anew (pc := 7) (t0 := 2) (N := 6) F wcl_X3_9 (fun _ h => h.2.2.1) rfl rfl (by decide) (by decide) (by decide) dX3_init_7 ?_
  refine k_put (pc := 10) (k := h) (j := 0) F hI (by omega) (by rw [updE_ne _ _ (by omega)]; exact hE) rfl uin_X3 (by decide) tyX3_ok nmX3 wf_X3_11 rfl rfl rfl rfl (Nat.le_of_ble_eq_true rfl) dX3_init_10 ?_
  refine k_aload_n (pc := 13) F dX3_init_13 rfl ?_
  refine k_iconst (pc := 14) (v := 4) F dX3_init_14 (by decide) ?_
  refine k_anew (pc := 15) (t0 := 3) (N := 4) F wcl_X3_17 (fun _ h => h.2.2.2.1) rfl rfl (by decide) (by decide) (by decide) dX3_init_15 ?_
  refine k_put (pc := 18) (k := h) (j := 2) F hI (by omega) (by rw [updE_ne _ _ (by omega), updE_self] <;> rfl) rfl uin_X3 (by decide) tyX3_ok nmX3 wf_X3_19 rfl rfl rfl rfl (Nat.le_of_ble_eq_true rfl) dX3_init_18 ?_
  refine k_aload_n (pc := 21) F dX3_init_21 rfl ?_
  refine k_iconst (pc := 22) (v := 1) F dX3_init_22 (by decide) ?_
  refine k_put (pc := 23) (k := h) (j := 5) F hI (by omega) (by rw [updE_self] <;> rfl) rfl uin_X3 (by decide) tyX3_ok nmX3 wf_X3_23 rfl rfl rfl rfl (Nat.le_of_ble_eq_true rfl) dX3_init_23 ?_
  refine k_iconst (pc := 26) (v := 0) F dX3_init_26 (by decide) ?_
  refine k_istore_n (pc := 27) F dX3_init_27 (by decide) rfl ?_
  refine KG.eE (hEA_0 g E h _ _) ?_
  refine KG.cnt (n' := h + 3 + 4 * 0) (cs' := 2 + 4 * 0) (sl' := 10 + 24 * 0) (by omega) (by omega) (by omega) ?_
  exact L1 6 0 _ (by omega) nI_0.symm
end
section
/-! the history, the text, the orders, the class's object, the check's -/
theorem w0_4 (g : Gm) : wE g M0 63 = .inr (4, [.ref (ad g 64), .int 0]) := by
  rw [wE_obj g M0 (show kd 63 = 4 by decide) (by decide)]
  have z := M0_z (k := 63) (by decide) (by decide) (by decide)
  simp only [tpl, wF, rv, z]
theorem w0_17 (g : Gm) : wE g M0 64 = rarr (gC g 4) 5 (fun j => some (ad g (65 + 31 * (M0 64 j).toNatClampNeg))) := by
  rw [wE_arr g M0 (show kd 64 = 17 by decide) (by decide)]
  rfl
theorem w0_6 (g : Gm) : wE g M0 220 = .inr (6, [.ref (ad g 221), .int 0]) := by
  rw [wE_obj g M0 (show kd 220 = 6 by decide) (by decide)]
  have z := M0_z (k := 220) (by decide) (by decide) (by decide)
  simp only [tpl, wF, rv, z]
theorem w0_14 (g : Gm) : wE g M0 221 = .inl (gC g 1, 60, .inl (fun _ => 0)) := by
  rw [wE_14 g M0 (show kd 221 = 14 by decide), M0_zf (k := 221) (by decide) (by decide) (by decide)]
theorem w0_5 (g : Gm) : wE g M0 222 = .inr (5, [.ref (ad g 220), .ref (ad g 223), .int 0, .int 0, .int 0, .int 0, .int 0]) := by
  rw [wE_obj g M0 (show kd 222 = 5 by decide) (by decide)]
  have z := M0_z (k := 222) (by decide) (by decide) (by decide)
  simp only [tpl, wF, rv, z]
theorem w0_arr (g : Gm) {k c n : Nat} (h : kd k = c) (hn : iarr c = some n) (h3 : kd k ≠ 3) (h17 : kd k ≠ 17) (hs : k ≠ 999) : wE g M0 k = .inl (gC g 0, n, .inl (fun _ => 0)) := by
  rw [wE_iarr g M0 h hn, M0_zf h3 h17 hs]
theorem w0_7 (g : Gm) : wE g M0 0 = .inr (7, [.ref (ad g 1), .ref (ad g 32), .ref (ad g 63), .ref (ad g 220), .ref (ad g 222)]) := by
  rw [wE_obj g M0 (show kd 0 = 7 by decide) (by decide)]
  rfl
def hEC (g : Gm) (E : Nat → va_E) (i : Nat) : Nat → va_E := fun k => if k = 63 then .inr (4, [.ref (ad g 64), .int 0]) else if k = 64 then rarr (gC g 4) 5 (fun j => if j < i then some (ad g (65 + 31 * j)) else none) else if 65 ≤ k ∧ k < 65 + 31 * i then wE g M0 k else E k
theorem hEC_h (g : Gm) (E : Nat → va_E) (i : Nat) : hEC g E i 63 = .inr (4, [.ref (ad g 64), .int 0]) := if_pos rfl
theorem hEC_1 (g : Gm) (E : Nat → va_E) (i : Nat) : hEC g E i 64 = rarr (gC g 4) 5 (fun j => if j < i then some (ad g (65 + 31 * j)) else none) := (if_neg (by decide)).trans (if_pos rfl)
theorem hEC_in (g : Gm) (E : Nat → va_E) {i k : Nat} (h1 : 65 ≤ k) (h2 : k < 65 + 31 * i) : hEC g E i k = wE g M0 k := (if_neg (by omega)).trans ((if_neg (by omega)).trans (if_pos ⟨h1, h2⟩))
theorem hEC_out (g : Gm) (E : Nat → va_E) {i k : Nat} (h1 : k < 63 ∨ 65 + 31 * i ≤ k) : hEC g E i k = E k := (if_neg (by omega)).trans ((if_neg (by omega)).trans (if_neg (by omega)))
theorem c_case (k : Nat) : k = 63 ∨ k = 64 ∨ (k < 63 ∨ 65 ≤ k) := by omega
theorem hEC_0 (g : Gm) (E : Nat → va_E) : updE (updE E 64 (rarr (gC g 4) 5 (fun _ => none))) 63 (.inr (4, [.ref (ad g 64), .int 0])) = hEC g E 0 := by
  funext k
  rcases c_case k with rfl | rfl | hk
  · rw [updE_self, hEC_h]
  · rw [updE_ne _ _ (by omega), updE_self, hEC_1]
    congr
  · rw [updE_ne _ _ (by omega), updE_ne _ _ (by omega), hEC_out g E (by omega)]
theorem hEC_s (g : Gm) (E : Nat → va_E) (i : Nat) (d : va_E) : updE (fin g (updE (hEC g E i) (65 + 31 * i) d) (65 + 31 * i) (65 + 31 * i + 31)) 64 (rarr (gC g 4) 5 (va_up (fun j => if j < i then some (ad g (65 + 31 * j)) else none) i (some (ad g (65 + 31 * i))))) = hEC g E (i + 1) := by
  funext k
  rcases c_case k with rfl | rfl | hk
  · rw [updE_ne _ _ (by omega), fin_lo g _ (by omega), updE_ne _ _ (by omega), hEC_h, hEC_h]
  · rw [updE_self, hEC_1, up_lt (fun j => ad g (65 + 31 * j)) i (fun _ => rfl)]
  · rw [updE_ne _ _ (by omega)]
    by_cases h1 : 65 ≤ k ∧ k < 65 + 31 * i
    · rw [fin_lo g _ (by omega), updE_ne _ _ (by omega), hEC_in g E h1.1 h1.2, hEC_in g E h1.1 (by omega)]
    · by_cases h2 : 65 + 31 * i ≤ k ∧ k < 65 + 31 * i + 31
      · rw [fin_in g _ h2.1 h2.2, hEC_in g E (by omega) (by omega)]
      · have e : fin g (updE (hEC g E i) (65 + 31 * i) d) (65 + 31 * i) (65 + 31 * i + 31) k = updE (hEC g E i) (65 + 31 * i) d k := if_neg h2
        rw [e, updE_ne _ _ (by omega), hEC_out g E (by omega), hEC_out g E (by omega)]
theorem M0_64 (j : Nat) : M0 64 j = nI j := by
  unfold M0
  rw [if_neg (by decide), if_pos (by decide)]
theorem hEC_f (g : Gm) (E : Nat → va_E) (k : Nat) : eqE (hEC g E 5 k) (fin g E 63 220 k) := by
  rcases c_case k with rfl | rfl | hk
  · rw [hEC_h, fin_in g E (by omega) (by omega), w0_4 g]
    exact Or.inl rfl
  · rw [hEC_1, fin_in g E (by omega) (by omega), w0_17 g]
    refine Or.inr ⟨_, _, _, _, rfl, rfl, fun j hj => ?_⟩
    rw [if_pos hj, M0_64, nI_clamp (by omega)]
  · by_cases h1 : 65 ≤ k ∧ k < 220
    · rw [hEC_in g E h1.1 (by omega), fin_in g E (by omega) (by omega)]
      exact Or.inl rfl
    · rw [hEC_out g E (by omega)]
      refine Or.inl ?_
      exact (if_neg (by omega)).symm
theorem kd_65 : ∀ i, i < 5 → kd (65 + 31 * i) = 3 := by decide
set_option maxHeartbeats 4000000 in
set_option maxRecDepth 100000 in
theorem k_X4_init (l : Launch) (g : Gm) (E : Nat → va_E) (hE : E 63 = .inr (4, [.null, .int 0])) : KCn l yX4_init cX4_init 2 4 73 156 885 g [.ref (ad g 63)] E 64 (fin g E 63 220) 220 := by
  refine KCn.intro (lv0 := [some (.ref (ad g 63)), none]) 1 (by decide +kernel) rfl (Nat.le_of_ble_eq_true rfl) rfl (fun X F r hI => ?_)
  have L1 : ∀ (n i : Nat) (y : Int32), i + n = 5 → y = nI i → KG X g 2 (hEC g E i) (65 + 31 * i) (1 + 31 * i) (5 + 176 * i) 14 [some (.ref (ad g 63)), some (.int y)] [] := by
    intro n
    induction n with
    | zero =>
      intro i y hin hy
      obtain rfl : i = 5 := by omega
      refine k_iload_n (pc := 14) F dX4_init_14 rfl ?_
      refine k_aload_n (pc := 15) F dX4_init_15 rfl ?_
      refine k_get (pc := 16) (k := 63) (j := 0) F (by omega) (hEC_h g E 5) rfl uin_X4 (by decide) wf_X4_11 rfl dX4_init_16 ?_
      refine k_alen (pc := 19) (k := 64) (t0 := 4) F (by omega) (hEC_1 g E 5) rfl rfl dX4_init_19 ?_
      refine k_icmp_ge (pc := 20) (tgt := 42) F dX4_init_20 (by decide) (fun c20 => ?_) (fun c20 => ?_)
      · refine KG.eqv (fun k _ => hEC_f g E k) ?_
        exact k_vret (pc := 42) F r dX4_init_42
      · exact absurd (by rw [hy]; exact nI_le (a := 5) (b := 5) (by decide) (by decide)) c20
    | succ n ih =>
      intro i y hin hy
      refine k_iload_n (pc := 14) F dX4_init_14 rfl ?_
      refine k_aload_n (pc := 15) F dX4_init_15 rfl ?_
      refine k_get (pc := 16) (k := 63) (j := 0) F (by omega) (hEC_h g E i) rfl uin_X4 (by decide) wf_X4_11 rfl dX4_init_16 ?_
      refine k_alen (pc := 19) (k := 64) (t0 := 4) F (by omega) (hEC_1 g E i) rfl rfl dX4_init_19 ?_
      refine k_icmp_ge (pc := 20) (tgt := 42) F dX4_init_20 (by decide) (fun c20 => ?_) (fun c20 => ?_)
      · exact absurd c20 (by rw [hy]; exact nI_ge (a := i) (b := 5) (by omega) (by decide))
      · refine k_aload_n (pc := 23) F dX4_init_23 rfl ?_
        refine k_get (pc := 24) (k := 63) (j := 0) F (by omega) (hEC_h g E i) rfl uin_X4 (by decide) wf_X4_11 rfl dX4_init_24 ?_
        refine k_iload_n (pc := 27) F dX4_init_27 rfl ?_
        refine k_new (pc := 28) (ci := 3) (fs := [.null, .int 0, .null, .int 0, .int 0, .int 0]) F wcl_X4_9 win_X3 wz_X3 rfl uin_X3 tyX3_ok (fun j hj => match j, hj with | 0, _ => rfl | 1, _ => rfl | 2, _ => rfl | 3, _ => rfl | 4, _ => rfl | 5, _ => rfl | k + 6, h => absurd h (by omega)) (by omega) (by omega) dX4_init_28 ?_
        refine k_dup (pc := 31) F dX4_init_31 rfl ?_
        refine k_callI (pc := 32) (rf2 := 3) (rl2 := 52) (mc := 30) (ms := 170) (na := 0) F wl_X4_17 wi_X3_init wz_X3 wc_X3_init rfl (by decide) (by rfl) (by rfl) (Nat.le_of_ble_eq_true (by rfl)) (by decide) ⟨by omega, by omega⟩ dX4_init_32 (k_X3_init _ g _ (65 + 31 * i) (kd_65 i (by omega)) (updE_self _ _ _)) ?_
        refine k_aast (pc := 35) (k := 64) (kv := 65 + 31 * i) (t0 := 4) (ci := 3) (r := (RX3, TX3, 6)) (N := 5) (q := i) F (by omega) (by rw [fin_lo g _ (by omega), updE_ne _ _ (by omega)]; exact hEC_1 g E i) rfl (by omega) (by rw [fin_in g _ (Nat.le_refl _) (by omega)]; exact w0_3 g (kd_65 i (by omega))) rfl hy (by omega) (by decide) dX4_init_35 ?_
        refine k_iinc (pc := 36) F dX4_init_36 rfl rfl (by decide) rfl ?_
        refine k_goto (pc := 39) (tgt := 14) F dX4_init_39 (by decide) ?_
        refine KG.eE (hEC_s g E i _) ?_
        refine KG.cnt (n' := 65 + 31 * (i + 1)) (cs' := 1 + 31 * (i + 1)) (sl' := 5 + 176 * (i + 1)) (by omega) (by omega) (by omega) ?_
        exact ih (i + 1) _ (by omega) (by rw [hy]; exact nI_1 i)
  refine k_aload_n (pc := 0) F dX4_init_0 rfl ?_
  refine k_objInit (pc := 1) F wl_X4_3 (by decide) (by decide) dX4_init_1 ?_
  refine k_aload_n (pc := 4) F dX4_init_4 rfl ?_
  refine k_iconst (pc := 5) (v := 5) F dX4_init_5 (by decide) ?_
  refine k_anew (pc := 6) (t0 := 4) (N := 5) F wcl_X4_9 (fun _ h => h.2.2.2.2) rfl rfl (by decide) (by decide) (by decide) dX4_init_6 ?_
  refine k_put (pc := 9) (k := 63) (j := 0) F hI (by omega) (by rw [updE_ne _ _ (by omega)]; exact hE) rfl uin_X4 (by decide) tyX4_ok nmX4 wf_X4_11 rfl rfl rfl rfl (Nat.le_of_ble_eq_true rfl) dX4_init_9 ?_
  refine k_iconst (pc := 12) (v := 0) F dX4_init_12 (by decide) ?_
  refine k_istore_n (pc := 13) F dX4_init_13 (by decide) rfl ?_
  refine KG.eE (hEC_0 g E) ?_
  exact L1 5 0 _ (by omega) nI_0.symm

set_option maxHeartbeats 4000000 in
set_option maxRecDepth 100000 in
theorem k_X6_init (l : Launch) (g : Gm) (E : Nat → va_E) (hE : E 220 = .inr (6, [.null, .int 0])) : KCn l yX6_init cX6_init 1 1 12 1 60 g [.ref (ad g 220)] E 221 (fin g E 220 222) 222 := by
  refine KCn.intro (lv0 := [some (.ref (ad g 220))]) 0 (by decide +kernel) rfl (Nat.le_of_ble_eq_true rfl) rfl (fun X F r hI => ?_)
  refine k_aload_n (pc := 0) F dX6_init_0 rfl ?_
  refine k_objInit (pc := 1) F wl_X6_3 (by decide) (by decide) dX6_init_1 ?_
  refine k_aload_n (pc := 4) F dX6_init_4 rfl ?_
  refine k_bipush (pc := 5) (v := 60) F dX6_init_5 (by decide) ?_
  refine k_newc (pc := 7) (N := 60) F rfl (by decide) (by decide) (by decide) dX6_init_7 ?_
  refine k_put (pc := 9) (k := 220) (j := 0) F hI (by omega) (by rw [updE_ne _ _ (by omega)]; exact hE) rfl uin_X6 (by decide) tyX6_ok nmX6 wf_X6_9 rfl rfl rfl rfl (Nat.le_of_ble_eq_true rfl) dX6_init_9 ?_
  refine KG.eE (E' := fin g E 220 222) ?_ (k_vret (pc := 12) F r dX6_init_12)
  funext k
  by_cases a0 : k = 220
  · rw [a0, updE_self, fin_in g E (by omega) (by omega), w0_6 g]
    rfl
  · by_cases a1 : k = 221
    · rw [a1, updE_ne _ _ (by omega), updE_self, fin_in g E (by omega) (by omega), w0_14 g]
    · rw [updE_ne _ _ a0, updE_ne _ _ a1]
      exact (if_neg (by omega)).symm

set_option maxHeartbeats 4000000 in
set_option maxRecDepth 100000 in
theorem k_X5_init (l : Launch) (g : Gm) (E : Nat → va_E) (hE : E 222 = .inr (5, [.null, .null, .int 0, .int 0, .int 0, .int 0, .int 0])) : KCn l yX5_init cX5_init 2 1 12 1 5 g [.ref (ad g 222), .ref (ad g 220)] E 223 (fin g E 222 224) 224 := by
  refine KCn.intro (lv0 := [some (.ref (ad g 222)), some (.ref (ad g 220))]) 0 (by decide +kernel) rfl (Nat.le_of_ble_eq_true rfl) rfl (fun X F r hI => ?_)
  refine k_aload_n (pc := 0) F dX5_init_0 rfl ?_
  refine k_objInit (pc := 1) F wl_X5_3 (by decide) (by decide) dX5_init_1 ?_
  refine k_aload_n (pc := 4) F dX5_init_4 rfl ?_
  refine k_iconst (pc := 5) (v := 5) F dX5_init_5 (by decide) ?_
  refine k_newi (pc := 6) (N := 5) F rfl (by decide) (by decide) (by decide) dX5_init_6 ?_
  refine k_put (pc := 8) (k := 222) (j := 1) F hI (by omega) (by rw [updE_ne _ _ (by omega)]; exact hE) rfl uin_X5 (by decide) tyX5_ok nmX5 wf_X5_9 rfl rfl rfl rfl (Nat.le_of_ble_eq_true rfl) dX5_init_8 ?_
  refine k_aload_n (pc := 11) F dX5_init_11 rfl ?_
  refine k_aload_n (pc := 12) F dX5_init_12 rfl ?_
  refine k_put (pc := 13) (k := 222) (j := 0) F hI (by omega) (by rw [updE_self] <;> rfl) rfl uin_X5 (by decide) tyX5_ok nmX5 wf_X5_15 rfl rfl rfl rfl (Nat.le_of_ble_eq_true rfl) dX5_init_13 ?_
  refine KG.eE (E' := fin g E 222 224) ?_ (k_vret (pc := 16) F r dX5_init_16)
  funext k
  by_cases a0 : k = 222
  · rw [a0, updE_self, fin_in g E (by omega) (by omega), w0_5 g]
    rfl
  · by_cases a1 : k = 223
    · rw [a1, updE_ne _ _ (by omega), updE_ne _ _ (by omega), updE_self, fin_in g E (by omega) (by omega), w0_arr g (k := 223) (c := 10) (n := 5) (by decide) rfl (by decide) (by decide) (by decide)]
    · rw [updE_ne _ _ a0, updE_ne _ _ a0, updE_ne _ _ a1]
      exact (if_neg (by omega)).symm

def hEX (g : Gm) (E : Nat → va_E) (m : Nat) (fs : List Value) : Nat → va_E := fun k => if k = 0 then .inr (7, fs) else if k < m then wE g M0 k else E k
theorem hEX_0 (g : Gm) (E : Nat → va_E) (m : Nat) (fs : List Value) : hEX g E m fs 0 = .inr (7, fs) := if_pos rfl
theorem hEX_in (g : Gm) (E : Nat → va_E) {m k : Nat} (fs : List Value) (h0 : k ≠ 0) (h : k < m) : hEX g E m fs k = wE g M0 k := (if_neg h0).trans (if_pos h)
theorem hEX_out (g : Gm) (E : Nat → va_E) {m k : Nat} (fs : List Value) (h0 : k ≠ 0) (h : m ≤ k) : hEX g E m fs k = E k := (if_neg h0).trans (if_neg (by omega))
theorem hEX_s (g : Gm) (E : Nat → va_E) {m m2 : Nat} (fs fs2 : List Value) (d : va_E) (h0 : m ≠ 0) (hm : m < m2) : updE (fin g (updE (hEX g E m fs) m d) m m2) 0 (.inr (7, fs2)) = hEX g E m2 fs2 := by
  funext k
  by_cases a0 : k = 0
  · rw [a0, updE_self, hEX_0]
  · rw [updE_ne _ _ a0]
    by_cases a1 : k < m
    · rw [fin_lo g _ a1, updE_ne _ _ (by omega), hEX_in g E _ a0 a1, hEX_in g E _ a0 (by omega)]
    · by_cases a2 : k < m2
      · rw [fin_in g _ (by omega) a2, hEX_in g E _ a0 a2]
      · have e : fin g (updE (hEX g E m fs) m d) m m2 k = updE (hEX g E m fs) m d k := if_neg (by omega)
        rw [e, updE_ne _ _ (by omega), hEX_out g E _ a0 (by omega), hEX_out g E _ a0 (by omega)]
set_option maxHeartbeats 4000000 in
set_option maxRecDepth 100000 in
theorem k_X7_init (l : Launch) (g : Gm) (E : Nat → va_E) (hE : E 0 = .inr (7, [.null, .null, .null, .null, .null])) : KCn l yX7_init cX7_init 1 5 94 223 1313 g [.ref (ad g 0)] E 1 (fin g E 0 224) 224 := by
  refine KCn.intro (lv0 := [some (.ref (ad g 0))]) 0 (by decide +kernel) rfl (Nat.le_of_ble_eq_true rfl) rfl (fun X F r hI => ?_)
  refine k_aload_n (pc := 0) F dX7_init_0 rfl ?_
  refine k_objInit (pc := 1) F wl_X7_3 (by decide) (by decide) dX7_init_1 ?_
  refine KG.eE (E' := hEX g E 1 [.null, .null, .null, .null, .null]) ?_ ?_
  · funext k
    by_cases a0 : k = 0
    · rw [a0, hEX_0, hE]
    · rw [hEX_out g E _ a0 (by omega)]
  · refine k_aload_n (pc := 4) F dX7_init_4 rfl ?_
    refine k_new (pc := 5) (ci := 3) (fs := [.null, .int 0, .null, .int 0, .int 0, .int 0]) F wcl_X7_9 win_X3 wz_X3 rfl uin_X3 tyX3_ok (fun j hj => match j, hj with | 0, _ => rfl | 1, _ => rfl | 2, _ => rfl | 3, _ => rfl | 4, _ => rfl | 5, _ => rfl | k + 6, h => absurd h (by omega)) (by decide) (by decide) dX7_init_5 ?_
    refine k_dup (pc := 8) F dX7_init_8 rfl ?_
    refine k_callI (pc := 9) (rf2 := 3) (rl2 := 52) (mc := 30) (ms := 170) (na := 0) F wl_X7_11 wi_X3_init wz_X3 wc_X3_init rfl (by decide) (by rfl) (by rfl) (Nat.le_of_ble_eq_true (by rfl)) (by decide) (by decide) dX7_init_9 (k_X3_init _ g _ 1 (by decide) (updE_self _ _ _)) ?_
    refine k_put (pc := 12) (k := 0) (j := 0) F hI (by omega) (by rw [fin_lo g _ (by omega), updE_ne _ _ (by omega)]; exact hEX_0 g E _ _) rfl uin_X7 (by decide) tyX7_ok nmX7 wf_X7_12 rfl rfl rfl rfl (Nat.le_of_ble_eq_true rfl) dX7_init_12 ?_
    refine KG.eE (hEX_s g E (m := 1) (m2 := 32) [.null, .null, .null, .null, .null] [.ref (ad g 1), .null, .null, .null, .null] _ (by decide) (by decide)) ?_
    refine k_aload_n (pc := 15) F dX7_init_15 rfl ?_
    refine k_new (pc := 16) (ci := 3) (fs := [.null, .int 0, .null, .int 0, .int 0, .int 0]) F wcl_X7_9 win_X3 wz_X3 rfl uin_X3 tyX3_ok (fun j hj => match j, hj with | 0, _ => rfl | 1, _ => rfl | 2, _ => rfl | 3, _ => rfl | 4, _ => rfl | 5, _ => rfl | k + 6, h => absurd h (by omega)) (by decide) (by decide) dX7_init_16 ?_
    refine k_dup (pc := 19) F dX7_init_19 rfl ?_
    refine k_callI (pc := 20) (rf2 := 3) (rl2 := 52) (mc := 30) (ms := 170) (na := 0) F wl_X7_11 wi_X3_init wz_X3 wc_X3_init rfl (by decide) (by rfl) (by rfl) (Nat.le_of_ble_eq_true (by rfl)) (by decide) (by decide) dX7_init_20 (k_X3_init _ g _ 32 (by decide) (updE_self _ _ _)) ?_
    refine k_put (pc := 23) (k := 0) (j := 1) F hI (by omega) (by rw [fin_lo g _ (by omega), updE_ne _ _ (by omega)]; exact hEX_0 g E _ _) rfl uin_X7 (by decide) tyX7_ok nmX7 wf_X7_16 rfl rfl rfl rfl (Nat.le_of_ble_eq_true rfl) dX7_init_23 ?_
    refine KG.eE (hEX_s g E (m := 32) (m2 := 63) [.ref (ad g 1), .null, .null, .null, .null] [.ref (ad g 1), .ref (ad g 32), .null, .null, .null] _ (by decide) (by decide)) ?_
    refine k_aload_n (pc := 26) F dX7_init_26 rfl ?_
    refine k_new (pc := 27) (ci := 4) (fs := [.null, .int 0]) F wcl_X7_19 win_X4 wz_X4 rfl uin_X4 tyX4_ok (fun j hj => match j, hj with | 0, _ => rfl | 1, _ => rfl | k + 2, h => absurd h (by omega)) (by decide) (by decide) dX7_init_27 ?_
    refine k_dup (pc := 30) F dX7_init_30 rfl ?_
    refine k_callI (pc := 31) (rf2 := 4) (rl2 := 73) (mc := 156) (ms := 885) (na := 0) F wl_X7_21 wi_X4_init wz_X4 wc_X4_init rfl (by decide) (by rfl) (by rfl) (Nat.le_of_ble_eq_true (by rfl)) (by decide) (by decide) dX7_init_31 (k_X4_init _ g _ (updE_self _ _ _)) ?_
    refine k_put (pc := 34) (k := 0) (j := 2) F hI (by omega) (by rw [fin_lo g _ (by omega), updE_ne _ _ (by omega)]; exact hEX_0 g E _ _) rfl uin_X7 (by decide) tyX7_ok nmX7 wf_X7_22 rfl rfl rfl rfl (Nat.le_of_ble_eq_true rfl) dX7_init_34 ?_
    refine KG.eE (hEX_s g E (m := 63) (m2 := 220) [.ref (ad g 1), .ref (ad g 32), .null, .null, .null] [.ref (ad g 1), .ref (ad g 32), .ref (ad g 63), .null, .null] _ (by decide) (by decide)) ?_
    refine k_aload_n (pc := 37) F dX7_init_37 rfl ?_
    refine k_new (pc := 38) (ci := 6) (fs := [.null, .int 0]) F wcl_X7_26 win_X6 wz_X6 rfl uin_X6 tyX6_ok (fun j hj => match j, hj with | 0, _ => rfl | 1, _ => rfl | k + 2, h => absurd h (by omega)) (by decide) (by decide) dX7_init_38 ?_
    refine k_dup (pc := 41) F dX7_init_41 rfl ?_
    refine k_callIN (pc := 42) (rf2 := 1) (rl2 := 12) (mc := 1) (ms := 60) (na := 0) F wn_X7_28 wi_X6_init wz_X6 wc_X6_init rfl (by decide) (by rfl) (by rfl) (Nat.le_of_ble_eq_true (by rfl)) (by decide) (by decide) dX7_init_42 (k_X6_init _ g _ (updE_self _ _ _)) ?_
    refine k_put (pc := 45) (k := 0) (j := 3) F hI (by omega) (by rw [fin_lo g _ (by omega), updE_ne _ _ (by omega)]; exact hEX_0 g E _ _) rfl uin_X7 (by decide) tyX7_ok nmX7 wf_X7_29 rfl rfl rfl rfl (Nat.le_of_ble_eq_true rfl) dX7_init_45 ?_
    refine KG.eE (hEX_s g E (m := 220) (m2 := 222) [.ref (ad g 1), .ref (ad g 32), .ref (ad g 63), .null, .null] [.ref (ad g 1), .ref (ad g 32), .ref (ad g 63), .ref (ad g 220), .null] _ (by decide) (by decide)) ?_
    refine k_aload_n (pc := 48) F dX7_init_48 rfl ?_
    refine k_new (pc := 49) (ci := 5) (fs := [.null, .null, .int 0, .int 0, .int 0, .int 0, .int 0]) F wcl_X7_33 win_X5 wz_X5 rfl uin_X5 tyX5_ok (fun j hj => match j, hj with | 0, _ => rfl | 1, _ => rfl | 2, _ => rfl | 3, _ => rfl | 4, _ => rfl | 5, _ => rfl | 6, _ => rfl | k + 7, h => absurd h (by omega)) (by decide) (by decide) dX7_init_49 ?_
    refine k_dup (pc := 52) F dX7_init_52 rfl ?_
    refine k_aload_n (pc := 53) F dX7_init_53 rfl ?_
    refine k_get (pc := 54) (k := 0) (j := 3) F (by omega) (by rw [updE_ne _ _ (by omega)]; exact hEX_0 g E _ _) rfl uin_X7 (by decide) wf_X7_29 rfl dX7_init_54 ?_
    refine k_callI (pc := 57) (rf2 := 1) (rl2 := 12) (mc := 1) (ms := 5) (na := 1) F wl_X7_35 wi_X5_init wz_X5 wc_X5_init rfl (by decide) (by rfl) (by rfl) (Nat.le_of_ble_eq_true (by rfl)) (by decide) (by decide) dX7_init_57 (k_X5_init _ g _ (updE_self _ _ _)) ?_
    refine k_put (pc := 60) (k := 0) (j := 4) F hI (by omega) (by rw [fin_lo g _ (by omega), updE_ne _ _ (by omega)]; exact hEX_0 g E _ _) rfl uin_X7 (by decide) tyX7_ok nmX7 wf_X7_38 rfl rfl rfl rfl (Nat.le_of_ble_eq_true rfl) dX7_init_60 ?_
    refine KG.eE (hEX_s g E (m := 222) (m2 := 224) [.ref (ad g 1), .ref (ad g 32), .ref (ad g 63), .ref (ad g 220), .null] [.ref (ad g 1), .ref (ad g 32), .ref (ad g 63), .ref (ad g 220), .ref (ad g 222)] _ (by decide) (by decide)) ?_
    refine KG.eE (E' := fin g E 0 224) ?_ (k_vret (pc := 63) F r dX7_init_63)
    funext k
    by_cases a0 : k = 0
    · rw [a0, hEX_0, fin_in g E (by omega) (by omega), w0_7 g]
    · by_cases a1 : k < 224
      · rw [hEX_in g E _ a0 a1, fin_in g E (by omega) a1]
      · rw [hEX_out g E _ a0 (by omega), fin_hi g E (by omega)]
end
section
/-! THE LAW'S OWN NUMBERS: four arrays, at the places 224 .. 227; they are a state S as the class has it; WM M S: the memory M with the law's arrays saying S -/
theorem kd224 : kd 224 = 9 := by decide
theorem kd225 : kd 225 = 11 := by decide
theorem kd226 : kd 226 = 12 := by decide
theorem kd227 : kd 227 = 13 := by decide
theorem setC_cw (S : SV) (i : Nat) : setC S i (cw S i) = S := by
  funext k
  unfold setC cw
  split
  · congr 1
    omega
  · rfl
theorem setC_upd (S : SV) (i : Nat) (w : Nat → Int32) {j : Nat} (hj : j < 15) (v : Int32) : setC S i (upd w j v) = upd (setC S i w) (4 + 15 * i + j) v := by
  funext k
  rw [upd_get]
  by_cases h : k = 4 + 15 * i + j
  · rw [if_pos h]
    unfold setC
    rw [if_pos (by omega), show k - (4 + 15 * i) = j by omega, upd_self]
  · rw [if_neg h]
    unfold setC
    by_cases h2 : 4 + 15 * i ≤ k ∧ k < 19 + 15 * i
    · rw [if_pos h2, if_pos h2, upd_ne _ _ (by omega)]
    · rw [if_neg h2, if_neg h2]
theorem setC_setC (S : SV) (i : Nat) (w w' : Nat → Int32) : setC (setC S i w) i w' = setC S i w' := by
  funext k
  unfold setC
  split <;> rfl
theorem setC_congr (S : SV) (i : Nat) {w w' : Nat → Int32} (h : ∀ j, j < 15 → w j = w' j) : setC S i w = setC S i w' := by
  funext k
  unfold setC
  split
  · exact h _ (by omega)
  · rfl
theorem setGr_gw (S : SV) (i : Nat) : setGr S i (gw S i) = S := by
  funext k
  unfold setGr gw
  split
  · congr 1
    omega
  · rfl
theorem setGr_upd (S : SV) (i : Nat) (w : Nat → Int32) {j : Nat} (hj : j < 4) (v : Int32) : setGr S i (upd w j v) = upd (setGr S i w) (94 + 4 * i + j) v := by
  funext k
  rw [upd_get]
  by_cases h : k = 94 + 4 * i + j
  · rw [if_pos h]
    unfold setGr
    rw [if_pos (by omega), show k - (94 + 4 * i) = j by omega, upd_self]
  · rw [if_neg h]
    unfold setGr
    by_cases h2 : 94 + 4 * i ≤ k ∧ k < 98 + 4 * i
    · rw [if_pos h2, if_pos h2, upd_ne _ _ (by omega)]
    · rw [if_neg h2, if_neg h2]
theorem upd_comm (f : Nat → Int32) {a b : Nat} (h : a ≠ b) (x y : Int32) : upd (upd f a x) b y = upd (upd f b y) a x := by
  funext j
  simp only [upd_get]
  by_cases h1 : j = a <;> by_cases h2 : j = b <;> simp_all
theorem upd_upd (f : Nat → Int32) (a : Nat) (x y : Int32) : upd (upd f a x) a y = upd f a y := by
  funext j
  simp only [upd_get]
  by_cases h1 : j = a <;> simp_all
theorem gapAt_congr {w w' : Nat → Int32} {p : Int32} (e : ∀ j, j < 5 → w' j = w j) (hp : w 0 = 2 ∨ ∃ j, j < 4 ∧ p = nI j) : gapAt w' p = gapAt w p := by
  unfold gapAt
  rw [e 0 (by decide), e 1 (by decide), e 2 (by decide), e 3 (by decide)]
  by_cases h : w 0 = 2
  · rw [if_pos h, if_pos h]
  · rw [if_neg h, if_neg h]
    obtain ⟨j, hj, rfl⟩ := hp.resolve_left h
    rw [nI_clamp (by omega)]
    exact e _ (by omega)
theorem NP4 {la b c d : Nat} (h : la ≠ 2) : NP la b c d ≤ 4 := by
  unfold NP
  rw [if_neg h]
  by_cases h1 : 0 < b <;> by_cases h2 : 0 < c <;> by_cases h3 : 0 < d <;> simp [h1, h2, h3]
/-! indices -/
theorem ix8 (i q : Nat) : (8 : Int32) * nI i + nI q = nI (8 * i + q) := by
  rw [show (8 : Int32) = nI 8 from rfl, nI_mul, nI_add]
theorem ix80 (i : Nat) : (8 : Int32) * nI i = nI (8 * i + 0) := by
  rw [show (8 : Int32) = nI 8 from rfl, nI_mul] <;> rfl
theorem ix7 (i q : Nat) : (7 : Int32) * nI i + nI q = nI (7 * i + q) := by
  rw [show (7 : Int32) = nI 7 from rfl, nI_mul, nI_add]
theorem ix70 (i : Nat) : (7 : Int32) * nI i = nI (7 * i + 0) := by
  rw [show (7 : Int32) = nI 7 from rfl, nI_mul] <;> rfl
theorem ix4 (i q : Nat) : (4 : Int32) * nI i + nI q = nI (4 * i + q) := by
  rw [show (4 : Int32) = nI 4 from rfl, nI_mul, nI_add]
theorem ix40 (i : Nat) : (4 : Int32) * nI i = nI (4 * i + 0) := by
  rw [show (4 : Int32) = nI 4 from rfl, nI_mul] <;> rfl
/-! the law's arrays as a state -/
def WM (M : Mem) (S : SV) : Mem := fun a n => if a = 224 then (if n < 4 then S n else M 224 n) else if a = 225 then (if n < 48 then S (4 + 15 * (n / 8) + n % 8) else M 225 n) else if a = 226 then (if n < 42 then S (4 + 15 * (n / 7) + (8 + n % 7)) else M 226 n) else if a = 227 then S (94 + n) else M a n
def LSt (M : Mem) : SV := fun k => if k < 4 then M 224 k else if k < 94 then (if (k - 4) % 15 < 8 then M 225 (8 * ((k - 4) / 15) + (k - 4) % 15) else M 226 (7 * ((k - 4) / 15) + ((k - 4) % 15 - 8))) else M 227 (k - 94)
theorem WM_lo (M : Mem) (S : SV) {a : Nat} (h : a < 224) : WM M S a = M a := by
  funext n
  unfold WM
  rw [if_neg (by omega), if_neg (by omega), if_neg (by omega), if_neg (by omega)]
theorem WM224 (M : Mem) (S : SV) (n : Nat) : WM M S 224 n = if n < 4 then S n else M 224 n := by
  unfold WM
  rw [if_pos rfl]
theorem WM225 (M : Mem) (S : SV) (n : Nat) : WM M S 225 n = if n < 48 then S (4 + 15 * (n / 8) + n % 8) else M 225 n := by
  unfold WM
  rw [if_neg (by decide), if_pos rfl]
theorem WM226 (M : Mem) (S : SV) (n : Nat) : WM M S 226 n = if n < 42 then S (4 + 15 * (n / 7) + (8 + n % 7)) else M 226 n := by
  unfold WM
  rw [if_neg (by decide), if_neg (by decide), if_pos rfl]
theorem WM227 (M : Mem) (S : SV) (n : Nat) : WM M S 227 n = S (94 + n) := by
  unfold WM
  rw [if_neg (by decide), if_neg (by decide), if_neg (by decide), if_pos rfl]
theorem WM_o (M : Mem) (S : SV) {a : Nat} (h4 : a ≠ 224) (h5 : a ≠ 225) (h6 : a ≠ 226) (h7 : a ≠ 227) : WM M S a = M a := by
  funext n
  unfold WM
  rw [if_neg h4, if_neg h5, if_neg h6, if_neg h7]
theorem WM_eq {M M2 : Mem} {S : SV} (h4 : ∀ n, M2 224 n = if n < 4 then S n else M 224 n) (h5 : ∀ n, M2 225 n = if n < 48 then S (4 + 15 * (n / 8) + n % 8) else M 225 n) (h6 : ∀ n, M2 226 n = if n < 42 then S (4 + 15 * (n / 7) + (8 + n % 7)) else M 226 n) (h7 : ∀ n, M2 227 n = S (94 + n)) (ho : ∀ a, a ≠ 224 → a ≠ 225 → a ≠ 226 → a ≠ 227 → M2 a = M a) : M2 = WM M S := by
  funext a n
  by_cases a4 : a = 224
  · subst a4; rw [h4, WM224]
  · by_cases a5 : a = 225
    · subst a5; rw [h5, WM225]
    · by_cases a6 : a = 226
      · subst a6; rw [h6, WM226]
      · by_cases a7 : a = 227
        · subst a7; rw [h7, WM227]
        · rw [ho a a4 a5 a6 a7, WM_o M S a4 a5 a6 a7]
theorem WM_g (M : Mem) (S : SV) {j : Nat} (h : j < 4) : WM M S 224 j = S j := by
  rw [WM224, if_pos h]
theorem WM_c (M : Mem) (S : SV) {i j : Nat} (hi : i < 6) (h : j < 8) : WM M S 225 (8 * i + j) = cw S i j := by
  rw [WM225, if_pos (by omega), show (8 * i + j) / 8 = i by omega, show (8 * i + j) % 8 = j by omega]
  rfl
theorem WM_v (M : Mem) (S : SV) {i j : Nat} (hi : i < 6) (h : j < 7) : WM M S 226 (7 * i + j) = cw S i (8 + j) := by
  rw [WM226, if_pos (by omega), show (7 * i + j) / 7 = i by omega, show (7 * i + j) % 7 = j by omega]
  rfl
theorem WM_q (M : Mem) (S : SV) (i j : Nat) : WM M S 227 (4 * i + j) = gw S i j := by
  rw [WM227, ← Nat.add_assoc]
  rfl
theorem WM_LS (M : Mem) : WM M (LSt M) = M := by
  refine (WM_eq (fun n => ?_) (fun n => ?_) (fun n => ?_) (fun n => ?_) (fun _ _ _ _ _ => rfl)).symm
  · by_cases h : n < 4
    · rw [if_pos h]; unfold LSt; rw [if_pos h]
    · rw [if_neg h]
  · by_cases h : n < 48
    · rw [if_pos h]; unfold LSt; rw [if_neg (by omega), if_pos (by omega), if_pos (by omega)]
      congr 1
      omega
    · rw [if_neg h]
  · by_cases h : n < 42
    · rw [if_pos h]; unfold LSt; rw [if_neg (by omega), if_pos (by omega), if_neg (by omega)]
      congr 1
      omega
    · rw [if_neg h]
  · unfold LSt; rw [if_neg (by omega), if_neg (by omega)]
    congr 1
    omega
/-- nothing of the law's changed: the same S -/
theorem WM_fr {M M2 : Mem} {S : SV} (h : frC (WM M S) M2) : M2 = WM M2 S := by
  refine WM_eq (fun n => ?_) (fun n => ?_) (fun n => ?_) (fun n => ?_) (fun _ _ _ _ _ => rfl)
  · by_cases hn : n < 4
    · rw [if_pos hn, h 224 (by decide), WM224, if_pos hn]
    · rw [if_neg hn]
  · by_cases hn : n < 48
    · rw [if_pos hn, h 225 (by decide), WM225, if_pos hn]
    · rw [if_neg hn]
  · by_cases hn : n < 42
    · rw [if_pos hn, h 226 (by decide), WM226, if_pos hn]
    · rw [if_neg hn]
  · rw [h 227 (by decide), WM227]
theorem WM_gs (M : Mem) (S : SV) {j : Nat} (h : j < 4) (v : Int32) : upd2 (WM M S) 224 j v = WM M (upd S j v) := by
  refine WM_eq (fun n => ?_) (fun n => ?_) (fun n => ?_) (fun n => ?_) (fun a a4 a5 a6 a7 => ?_)
  · rw [upd2_get, if_pos rfl, upd_get, WM224]
    by_cases hn : n = j
    · rw [if_pos hn, if_pos (by omega), if_pos hn]
    · rw [if_neg hn, if_neg hn]
  · rw [upd2_k _ _ _ (by decide), upd_ne _ _ (by omega), WM225]
  · rw [upd2_k _ _ _ (by decide), upd_ne _ _ (by omega), WM226]
  · rw [upd2_k _ _ _ (by decide), upd_ne _ _ (by omega), WM227]
  · rw [upd2_k _ _ _ a4, WM_o M S a4 a5 a6 a7]
theorem WM_cs (M : Mem) (S : SV) {i j : Nat} (hi : i < 6) (h : j < 8) (v : Int32) : upd2 (WM M S) 225 (8 * i + j) v = WM M (upd S (4 + 15 * i + j) v) := by
  refine WM_eq (fun n => ?_) (fun n => ?_) (fun n => ?_) (fun n => ?_) (fun a a4 a5 a6 a7 => ?_)
  · rw [upd2_k _ _ _ (by decide), WM224]
    by_cases hn : n < 4
    · rw [if_pos hn, if_pos hn, upd_ne _ _ (by omega)]
    · rw [if_neg hn, if_neg hn]
  · rw [upd2_get, if_pos rfl, WM225]
    by_cases hn : n = 8 * i + j
    · rw [if_pos hn, if_pos (by omega), upd_get, if_pos (by omega)]
    · rw [if_neg hn]
      by_cases hn4 : n < 48
      · rw [if_pos hn4, if_pos hn4, upd_ne _ _ (by omega)]
      · rw [if_neg hn4, if_neg hn4]
  · rw [upd2_k _ _ _ (by decide), WM226]
    by_cases hn : n < 42
    · rw [if_pos hn, if_pos hn, upd_ne _ _ (by omega)]
    · rw [if_neg hn, if_neg hn]
  · rw [upd2_k _ _ _ (by decide), upd_ne _ _ (by omega), WM227]
  · rw [upd2_k _ _ _ a5, WM_o M S a4 a5 a6 a7]
theorem WM_vs (M : Mem) (S : SV) {i j : Nat} (hi : i < 6) (h : j < 7) (v : Int32) : upd2 (WM M S) 226 (7 * i + j) v = WM M (upd S (4 + 15 * i + (8 + j)) v) := by
  refine WM_eq (fun n => ?_) (fun n => ?_) (fun n => ?_) (fun n => ?_) (fun a a4 a5 a6 a7 => ?_)
  · rw [upd2_k _ _ _ (by decide), WM224]
    by_cases hn : n < 4
    · rw [if_pos hn, if_pos hn, upd_ne _ _ (by omega)]
    · rw [if_neg hn, if_neg hn]
  · rw [upd2_k _ _ _ (by decide), WM225]
    by_cases hn : n < 48
    · rw [if_pos hn, if_pos hn, upd_ne _ _ (by omega)]
    · rw [if_neg hn, if_neg hn]
  · rw [upd2_get, if_pos rfl, WM226]
    by_cases hn : n = 7 * i + j
    · rw [if_pos hn, if_pos (by omega), upd_get, if_pos (by omega)]
    · rw [if_neg hn]
      by_cases hn4 : n < 42
      · rw [if_pos hn4, if_pos hn4, upd_ne _ _ (by omega)]
      · rw [if_neg hn4, if_neg hn4]
  · rw [upd2_k _ _ _ (by decide), upd_ne _ _ (by omega), WM227]
  · rw [upd2_k _ _ _ a6, WM_o M S a4 a5 a6 a7]
theorem WM_qs (M : Mem) (S : SV) {i j : Nat} (hi : i < 4) (h : j < 4) (v : Int32) : upd2 (WM M S) 227 (4 * i + j) v = WM M (upd S (94 + 4 * i + j) v) := by
  refine WM_eq (fun n => ?_) (fun n => ?_) (fun n => ?_) (fun n => ?_) (fun a a4 a5 a6 a7 => ?_)
  · rw [upd2_k _ _ _ (by decide), WM224]
    by_cases hn : n < 4
    · rw [if_pos hn, if_pos hn, upd_ne _ _ (by omega)]
    · rw [if_neg hn, if_neg hn]
  · rw [upd2_k _ _ _ (by decide), WM225]
    by_cases hn : n < 48
    · rw [if_pos hn, if_pos hn, upd_ne _ _ (by omega)]
    · rw [if_neg hn, if_neg hn]
  · rw [upd2_k _ _ _ (by decide), WM226]
    by_cases hn : n < 42
    · rw [if_pos hn, if_pos hn, upd_ne _ _ (by omega)]
    · rw [if_neg hn, if_neg hn]
  · rw [upd2_get, if_pos rfl, WM227]
    by_cases hn : n = 4 * i + j
    · rw [if_pos hn, upd_get, if_pos (by omega)]
    · rw [if_neg hn, upd_ne _ _ (by omega)]
  · rw [upd2_k _ _ _ a7, WM_o M S a4 a5 a6 a7]
section GLAWR
variable {X : XT} {g : Gm} {cc : ByteArray} {nL : Nat} {own : String} {rf rl : Nat} {M : Mem} {S : SV} {pc : Nat} {lv : List (Option Value)} {st : List Value}
theorem g_gld (F : FX X g cc nL own rf rl) {j : Nat} {x : Int32} (hx : x = nI j) (hj : j < 4) (hd : decode cc pc = .ok (.iaload, 1)) (k : G X g nL (WM M S) (pc + 1) lv (.int (S j) :: st)) : G X g nL (WM M S) pc lv (.int x :: .ref (ad g 224) :: st) :=
  g_iald (q := j) F kd224 rfl hx hj hd (by rw [WM_g M S hj]; exact k)
theorem g_cld (F : FX X g cc nL own rf rl) {i j : Nat} {x : Int32} (hx : x = nI (8 * i + j)) (hi : i < 6) (hj : j < 8) (hd : decode cc pc = .ok (.iaload, 1)) (k : G X g nL (WM M S) (pc + 1) lv (.int (cw S i j) :: st)) : G X g nL (WM M S) pc lv (.int x :: .ref (ad g 225) :: st) :=
  g_iald (q := 8 * i + j) F kd225 rfl hx (by omega) hd (by rw [WM_c M S hi hj]; exact k)
theorem g_vld (F : FX X g cc nL own rf rl) {i j : Nat} {x : Int32} (hx : x = nI (7 * i + j)) (hi : i < 6) (hj : j < 7) (hd : decode cc pc = .ok (.iaload, 1)) (k : G X g nL (WM M S) (pc + 1) lv (.int (cw S i (8 + j)) :: st)) : G X g nL (WM M S) pc lv (.int x :: .ref (ad g 226) :: st) :=
  g_iald (q := 7 * i + j) F kd226 rfl hx (by omega) hd (by rw [WM_v M S hi hj]; exact k)
theorem g_qld (F : FX X g cc nL own rf rl) {i j : Nat} {x : Int32} (hx : x = nI (4 * i + j)) (hi : i < 4) (hj : j < 4) (hd : decode cc pc = .ok (.iaload, 1)) (k : G X g nL (WM M S) (pc + 1) lv (.int (gw S i j) :: st)) : G X g nL (WM M S) pc lv (.int x :: .ref (ad g 227) :: st) :=
  g_iald (q := 4 * i + j) F kd227 rfl hx (by omega) hd (by rw [WM_q M S i j]; exact k)
theorem g_gst (F : FX X g cc nL own rf rl) {j : Nat} {x v : Int32} (hx : x = nI j) (hj : j < 4) (hd : decode cc pc = .ok (.iastore, 1)) (k : G X g nL (WM M (upd S j v)) (pc + 1) lv st) : G X g nL (WM M S) pc lv (.int v :: .int x :: .ref (ad g 224) :: st) :=
  g_iast (q := j) F kd224 rfl hx hj hd (by rw [WM_gs M S hj]; exact k)
theorem g_cst (F : FX X g cc nL own rf rl) {i j : Nat} {x v : Int32} (hx : x = nI (8 * i + j)) (hi : i < 6) (hj : j < 8) (hd : decode cc pc = .ok (.iastore, 1)) (k : G X g nL (WM M (upd S (4 + 15 * i + j) v)) (pc + 1) lv st) : G X g nL (WM M S) pc lv (.int v :: .int x :: .ref (ad g 225) :: st) :=
  g_iast (q := 8 * i + j) F kd225 rfl hx (by omega) hd (by rw [WM_cs M S hi hj]; exact k)
theorem g_vst (F : FX X g cc nL own rf rl) {i j : Nat} {x v : Int32} (hx : x = nI (7 * i + j)) (hi : i < 6) (hj : j < 7) (hd : decode cc pc = .ok (.iastore, 1)) (k : G X g nL (WM M (upd S (4 + 15 * i + (8 + j)) v)) (pc + 1) lv st) : G X g nL (WM M S) pc lv (.int v :: .int x :: .ref (ad g 226) :: st) :=
  g_iast (q := 7 * i + j) F kd226 rfl hx (by omega) hd (by rw [WM_vs M S hi hj]; exact k)
theorem g_qst (F : FX X g cc nL own rf rl) {i j : Nat} {x v : Int32} (hx : x = nI (4 * i + j)) (hi : i < 4) (hj : j < 4) (hd : decode cc pc = .ok (.iastore, 1)) (k : G X g nL (WM M (upd S (94 + 4 * i + j) v)) (pc + 1) lv st) : G X g nL (WM M S) pc lv (.int v :: .int x :: .ref (ad g 227) :: st) :=
  g_iast (q := 4 * i + j) F kd227 rfl hx (by omega) hd (by rw [WM_qs M S hi hj]; exact k)
end GLAWR
/-! small things -/
theorem low31 (x : Int32) : ∃ k, k < 2147483648 ∧ x &&& 2147483647 = nI k := by
  refine ⟨(x &&& 2147483647).toBitVec.toNat, ?_, ?_⟩
  · have h : (x &&& 2147483647).toBitVec.toNat = x.toBitVec.toNat &&& 2147483647 := by
      rw [Int32.toBitVec_and, BitVec.toNat_and]
      rfl
    rw [h]
    exact Nat.lt_succ_of_le Nat.and_le_right
  · apply Int32.toBitVec_inj.mp
    show (x &&& 2147483647).toBitVec = (Int32.ofNat (x &&& 2147483647).toBitVec.toNat).toBitVec
    rw [Int32.toBitVec_ofNat', BitVec.ofNat_toNat, BitVec.setWidth_eq]
theorem bit_1 : ∀ l, l < 64 → nI l &&& 1 = nI (l % 2) ∧ nI l >>> ((1 : Int32) &&& 31) = nI (l / 2) ∧ pop6 l = l % 2 + pop6 (l / 2) := by decide +kernel
theorem LI_many {w : Nat → Int32} {la b c d a : Nat} (h : LI w la a b c d) : (la = 2 → NP la b c d = b + 1) ∧ (la ≠ 2 → (b = 0 → NP la b c d = 1) ∧ (b ≠ 0 → c = 0 → NP la b c d = 2) ∧ (b ≠ 0 → c ≠ 0 → d = 0 → NP la b c d = 3) ∧ (b ≠ 0 → c ≠ 0 → d ≠ 0 → NP la b c d = 4)) := by
  obtain ⟨-, -, -, -, -, -, -, -, -, -, -, -, q2⟩ := h
  refine ⟨fun e => ?_, fun e => ?_⟩
  · unfold NP
    rw [if_pos e]
  · obtain ⟨c1, c2⟩ := q2 e
    have f : ∀ n : Nat, (if 0 < n then 1 else 0) = if n = 0 then 0 else 1 := by
      intro n
      by_cases hn : n = 0
      · rw [if_pos hn, if_neg (by omega)]
      · rw [if_neg hn, if_pos (by omega)]
    have hN : NP la b c d = 1 + (if b = 0 then 0 else 1) + (if c = 0 then 0 else 1) + (if d = 0 then 0 else 1) := by
      unfold NP
      rw [if_neg e, f, f, f]
    rw [hN]
    refine ⟨fun hb => ?_, fun hb hc => ?_, fun hb hc hd => ?_, fun hb hc hd => ?_⟩
    · rw [if_pos hb, if_pos (c1 hb), if_pos (c2 (c1 hb))]
    · rw [if_neg hb, if_pos hc, if_pos (c2 hc)]
    · rw [if_neg hb, if_neg hc, if_pos hd]
    · rw [if_neg hb, if_neg hc, if_neg hd]
theorem nI_z {n : Nat} (h : n < 2147483648) : nI n = 0 ↔ n = 0 := by rw [nI0, nI_inj h (by decide)]
theorem ix8p (i p : Nat) : (8 : Int32) * nI i + 1 + nI p = nI (8 * i + (1 + p)) := by
  rw [show (8 : Int32) = nI 8 from rfl, nI_mul, show (1 : Int32) = nI 1 from rfl, nI_add, nI_add, Nat.add_assoc]
set_option maxHeartbeats 4000000 in
set_option maxRecDepth 100000 in
theorem c_L_low (l : Launch) (g : Gm) (M : Mem) (x : Int32) (N : Nat) (hN : 0 < N) (hN2 : N < 2147483648) : Cn l yL_low cL_low 2 (some .int) 0 0 g [.int x, .int (nI N)] M (fun v M2 => (∃ q, q < N ∧ v = some (.int (nI q))) ∧ M2 = M) := by
  refine Cn.intro (lv0 := [some (.int x), some (.int (nI N))]) 0 (by decide +kernel) (Nat.le_of_ble_eq_true rfl) rfl (fun X F r => ?_)
  obtain ⟨k, hk, e⟩ := low31 x
  refine g_iload_n (pc := 0) F dL_low_0 rfl ?_
  refine g_ldc (pc := 1) F wk_L_8 dL_low_1 ?_
  refine g_iand (pc := 3) F dL_low_3 ?_
  refine g_iload_n (pc := 4) F dL_low_4 rfl ?_
  refine g_irem (pc := 5) F (nI_ne0 hN hN2) dL_low_5 ?_
  refine g_iret (pc := 6) F r dL_low_6 ?_
  exact ⟨⟨k % N, Nat.mod_lt _ hN, by rw [e, jrem_nI hk hN hN2]⟩, rfl⟩

set_option maxHeartbeats 4000000 in
set_option maxRecDepth 100000 in
theorem c_L_rest (l : Launch) (g : Gm) (M : Mem) (S : SV) (i : Nat) (hi : i < 6) : Cn l yL_rest cL_rest 2 (some .int) 0 0 g [.ref (ad g 225), .int (nI i)] (WM M S) (fun v M2 => v = some (.int (restW S i)) ∧ M2 = WM M S) := by
  refine Cn.intro (lv0 := [some (.ref (ad g 225)), some (.int (nI i))]) 0 (by decide +kernel) (Nat.le_of_ble_eq_true rfl) rfl (fun X F r => ?_)
  refine g_aload_n (pc := 0) F dL_rest_0 rfl ?_
  refine g_bipush (pc := 1) (v := 8) F dL_rest_1 (by decide) ?_
  refine g_iload_n (pc := 3) F dL_rest_3 rfl ?_
  refine g_imul (pc := 4) F dL_rest_4 ?_
  refine g_bipush (pc := 5) (v := 6) F dL_rest_5 (by decide) ?_
  refine g_iadd (pc := 7) F dL_rest_7 ?_
  refine g_cld (pc := 8) (i := i) (j := 6) F (ix8 i 6) (by omega) (by decide) dL_rest_8 ?_
  refine g_aload_n (pc := 9) F dL_rest_9 rfl ?_
  refine g_bipush (pc := 10) (v := 8) F dL_rest_10 (by decide) ?_
  refine g_iload_n (pc := 12) F dL_rest_12 rfl ?_
  refine g_imul (pc := 13) F dL_rest_13 ?_
  refine g_bipush (pc := 14) (v := 7) F dL_rest_14 (by decide) ?_
  refine g_iadd (pc := 16) F dL_rest_16 ?_
  refine g_cld (pc := 17) (i := i) (j := 7) F (ix8 i 7) (by omega) (by decide) dL_rest_17 ?_
  refine g_isub (pc := 18) F dL_rest_18 ?_
  refine g_iret (pc := 19) F r dL_rest_19 ?_
  exact ⟨rfl, rfl⟩

set_option maxHeartbeats 4000000 in
set_option maxRecDepth 100000 in
theorem c_L_many (l : Launch) (g : Gm) (M : Mem) (S : SV) (i : Nat) (hi : i < 6) (la a b c d : Nat) (hL : LI (cw S i) la a b c d) : Cn l yL_many cL_many 3 (some .int) 0 0 g [.ref (ad g 225), .int (nI i)] (WM M S) (fun v M2 => v = some (.int (nI (NP la b c d))) ∧ M2 = WM M S) := by
  refine Cn.intro (lv0 := [some (.ref (ad g 225)), some (.int (nI i)), none]) 1 (by decide +kernel) (Nat.le_of_ble_eq_true rfl) rfl (fun X F r => ?_)
  have hB := hL.2.2.2.2.2.2.2.2.1
  have hC := hL.2.2.2.2.2.2.2.2.2.1
  have hD := hL.2.2.2.2.2.2.2.2.2.2.1
  refine g_bipush (pc := 0) (v := 8) F dL_many_0 (by decide) ?_
  refine g_iload_n (pc := 2) F dL_many_2 rfl ?_
  refine g_imul (pc := 3) F dL_many_3 ?_
  refine g_istore_n (pc := 4) F dL_many_4 (by decide) rfl ?_
  refine g_aload_n (pc := 5) F dL_many_5 rfl ?_
  refine g_iload_n (pc := 6) F dL_many_6 rfl ?_
  refine g_cld (pc := 7) (i := i) (j := 0) F (ix80 i) (by omega) (by decide) dL_many_7 ?_
  refine g_iconst (pc := 8) (v := 2) F dL_many_8 (by decide) ?_
  refine g_icmp_ne (pc := 9) (tgt := 22) F dL_many_9 (by decide) (fun c9 => ?_) (fun c9 => ?_)
  · refine g_aload_n (pc := 22) F dL_many_22 rfl ?_
    refine g_iload_n (pc := 23) F dL_many_23 rfl ?_
    refine g_iconst (pc := 24) (v := 2) F dL_many_24 (by decide) ?_
    refine g_iadd (pc := 25) F dL_many_25 ?_
    refine g_cld (pc := 26) (i := i) (j := 2) F (ix8 i 2) (by omega) (by decide) dL_many_26 ?_
    refine g_if_ne (pc := 27) (tgt := 34) F dL_many_27 (by decide) (fun c27 => ?_) (fun c27 => ?_)
    · refine g_aload_n (pc := 34) F dL_many_34 rfl ?_
      refine g_iload_n (pc := 35) F dL_many_35 rfl ?_
      refine g_iconst (pc := 36) (v := 3) F dL_many_36 (by decide) ?_
      refine g_iadd (pc := 37) F dL_many_37 ?_
      refine g_cld (pc := 38) (i := i) (j := 3) F (ix8 i 3) (by omega) (by decide) dL_many_38 ?_
      refine g_if_ne (pc := 39) (tgt := 46) F dL_many_39 (by decide) (fun c39 => ?_) (fun c39 => ?_)
      · refine g_aload_n (pc := 46) F dL_many_46 rfl ?_
        refine g_iload_n (pc := 47) F dL_many_47 rfl ?_
        refine g_iconst (pc := 48) (v := 4) F dL_many_48 (by decide) ?_
        refine g_iadd (pc := 49) F dL_many_49 ?_
        refine g_cld (pc := 50) (i := i) (j := 4) F (ix8 i 4) (by omega) (by decide) dL_many_50 ?_
        refine g_if_ne (pc := 51) (tgt := 58) F dL_many_51 (by decide) (fun c51 => ?_) (fun c51 => ?_)
        · refine g_iconst (pc := 58) (v := 4) F dL_many_58 (by decide) ?_
          refine g_iret (pc := 59) F r dL_many_59 ?_
          have hl : la ≠ 2 := fun e => c9 ((LI_law2 hL).mpr e)
          have H := (LI_many hL).2 hl
          have hb : b ≠ 0 := fun e => c27 (by rw [show cw S i 2 = nI b from hL.2.2.1]; exact (nI_z (n := b) (by omega)).mpr e)
          have hc : c ≠ 0 := fun e => c39 (by rw [show cw S i 3 = nI c from hL.2.2.2.1]; exact (nI_z (n := c) (by omega)).mpr e)
          have hd : d ≠ 0 := fun e => c51 (by rw [show cw S i 4 = nI d from hL.2.2.2.2.1]; exact (nI_z (n := d) (by omega)).mpr e)
          exact ⟨by rw [H.2.2.2 hb hc hd] <;> rfl, rfl⟩
        · refine g_iconst (pc := 54) (v := 3) F dL_many_54 (by decide) ?_
          refine g_goto (pc := 55) (tgt := 59) F dL_many_55 (by decide) ?_
          refine g_iret (pc := 59) F r dL_many_59 ?_
          have hl : la ≠ 2 := fun e => c9 ((LI_law2 hL).mpr e)
          have H := (LI_many hL).2 hl
          have hb : b ≠ 0 := fun e => c27 (by rw [show cw S i 2 = nI b from hL.2.2.1]; exact (nI_z (n := b) (by omega)).mpr e)
          have hc : c ≠ 0 := fun e => c39 (by rw [show cw S i 3 = nI c from hL.2.2.2.1]; exact (nI_z (n := c) (by omega)).mpr e)
          have hd : d = 0 := (nI_z (n := d) (by omega)).mp (by rw [← show cw S i 4 = nI d from hL.2.2.2.2.1]; exact c51)
          exact ⟨by rw [H.2.2.1 hb hc hd] <;> rfl, rfl⟩
      · refine g_iconst (pc := 42) (v := 2) F dL_many_42 (by decide) ?_
        refine g_goto (pc := 43) (tgt := 59) F dL_many_43 (by decide) ?_
        refine g_iret (pc := 59) F r dL_many_59 ?_
        have hl : la ≠ 2 := fun e => c9 ((LI_law2 hL).mpr e)
        have H := (LI_many hL).2 hl
        have hb : b ≠ 0 := fun e => c27 (by rw [show cw S i 2 = nI b from hL.2.2.1]; exact (nI_z (n := b) (by omega)).mpr e)
        have hc : c = 0 := (nI_z (n := c) (by omega)).mp (by rw [← show cw S i 3 = nI c from hL.2.2.2.1]; exact c39)
        exact ⟨by rw [H.2.1 hb hc] <;> rfl, rfl⟩
    · refine g_iconst (pc := 30) (v := 1) F dL_many_30 (by decide) ?_
      refine g_goto (pc := 31) (tgt := 59) F dL_many_31 (by decide) ?_
      refine g_iret (pc := 59) F r dL_many_59 ?_
      have hl : la ≠ 2 := fun e => c9 ((LI_law2 hL).mpr e)
      have H := (LI_many hL).2 hl
      have hb : b = 0 := (nI_z (n := b) (by omega)).mp (by rw [← show cw S i 2 = nI b from hL.2.2.1]; exact c27)
      exact ⟨by rw [H.1 hb] <;> rfl, rfl⟩
  · refine g_aload_n (pc := 12) F dL_many_12 rfl ?_
    refine g_iload_n (pc := 13) F dL_many_13 rfl ?_
    refine g_iconst (pc := 14) (v := 2) F dL_many_14 (by decide) ?_
    refine g_iadd (pc := 15) F dL_many_15 ?_
    refine g_cld (pc := 16) (i := i) (j := 2) F (ix8 i 2) (by omega) (by decide) dL_many_16 ?_
    refine g_iconst (pc := 17) (v := 1) F dL_many_17 (by decide) ?_
    refine g_iadd (pc := 18) F dL_many_18 ?_
    refine g_goto (pc := 19) (tgt := 59) F dL_many_19 (by decide) ?_
    refine g_iret (pc := 59) F r dL_many_59 ?_
    have hl : la = 2 := (LI_law2 hL).mp c9
    exact ⟨by rw [show cw S i 2 = nI b from hL.2.2.1, nI_1, (LI_many hL).1 hl], rfl⟩

set_option maxHeartbeats 4000000 in
set_option maxRecDepth 100000 in
theorem c_L_gap (l : Launch) (g : Gm) (M : Mem) (S : SV) (i : Nat) (hi : i < 6) (la a b c d : Nat) (hL : LI (cw S i) la a b c d) (p : Nat) (hp : p < NP la b c d) : Cn l yL_gap cL_gap 4 (some .int) 0 0 g [.ref (ad g 225), .int (nI i), .int (nI p)] (WM M S) (fun v M2 => v = some (.int (gapAt (cw S i) (nI p))) ∧ M2 = WM M S) := by
  refine Cn.intro (lv0 := [some (.ref (ad g 225)), some (.int (nI i)), some (.int (nI p)), none]) 1 (by decide +kernel) (Nat.le_of_ble_eq_true rfl) rfl (fun X F r => ?_)
  have hB := hL.2.2.2.2.2.2.2.2.1
  have hP := (NP_bound (la := la) (b := b) (c := c) (d := d) hB).2
  refine g_bipush (pc := 0) (v := 8) F dL_gap_0 (by decide) ?_
  refine g_iload_n (pc := 2) F dL_gap_2 rfl ?_
  refine g_imul (pc := 3) F dL_gap_3 ?_
  refine g_istore_n (pc := 4) F dL_gap_4 (by decide) rfl ?_
  refine g_aload_n (pc := 5) F dL_gap_5 rfl ?_
  refine g_iload_n (pc := 6) F dL_gap_6 rfl ?_
  refine g_cld (pc := 7) (i := i) (j := 0) F (ix80 i) (by omega) (by decide) dL_gap_7 ?_
  refine g_iconst (pc := 8) (v := 2) F dL_gap_8 (by decide) ?_
  refine g_icmp_ne (pc := 9) (tgt := 33) F dL_gap_9 (by decide) (fun c9 => ?_) (fun c9 => ?_)
  · have hl : la ≠ 2 := fun e => c9 ((LI_law2 hL).mpr e)
    have hp4 : p < 4 := Nat.lt_of_lt_of_le hp (NP4 hl)
    refine g_aload_n (pc := 33) F dL_gap_33 rfl ?_
    refine g_iload_n (pc := 34) F dL_gap_34 rfl ?_
    refine g_iconst (pc := 35) (v := 1) F dL_gap_35 (by decide) ?_
    refine g_iadd (pc := 36) F dL_gap_36 ?_
    refine g_iload_n (pc := 37) F dL_gap_37 rfl ?_
    refine g_iadd (pc := 38) F dL_gap_38 ?_
    refine g_cld (pc := 39) (i := i) (j := 1 + p) F (ix8p i p) (by omega) (by omega) dL_gap_39 ?_
    refine g_iret (pc := 40) F r dL_gap_40 ?_
    exact ⟨by rw [show gapAt (cw S i) (nI p) = cw S i (1 + (nI p).toNatClampNeg) from if_neg c9, nI_clamp (by omega)], rfl⟩
  · refine g_aload_n (pc := 12) F dL_gap_12 rfl ?_
    refine g_iload_n (pc := 13) F dL_gap_13 rfl ?_
    refine g_iload_n (pc := 14) F dL_gap_14 rfl ?_
    refine g_aload_n (pc := 15) F dL_gap_15 rfl ?_
    refine g_iload_n (pc := 16) F dL_gap_16 rfl ?_
    refine g_iconst (pc := 17) (v := 2) F dL_gap_17 (by decide) ?_
    refine g_iadd (pc := 18) F dL_gap_18 ?_
    refine g_cld (pc := 19) (i := i) (j := 2) F (ix8 i 2) (by omega) (by decide) dL_gap_19 ?_
    refine g_icmp_ne (pc := 20) (tgt := 27) F dL_gap_20 (by decide) (fun c20 => ?_) (fun c20 => ?_)
    · refine g_iconst (pc := 27) (v := 1) F dL_gap_27 (by decide) ?_
      refine g_iadd (pc := 28) F dL_gap_28 ?_
      refine g_cld (pc := 29) (i := i) (j := 1) F (ix8 i 1) (by omega) (by decide) dL_gap_29 ?_
      refine g_goto (pc := 30) (tgt := 40) F dL_gap_30 (by decide) ?_
      refine g_iret (pc := 40) F r dL_gap_40 ?_
      have hl : la = 2 := (LI_law2 hL).mp c9
      have hN := (LI_many hL).1 hl
      have e2 : cw S i 2 = nI b := hL.2.2.1
      have hlt : nI p < cw S i 2 := by
        rw [e2] at c20 ⊢
        have hne : p ≠ b := fun e => c20 (by rw [e])
        exact nI_lt (by omega) (by omega)
      exact ⟨by rw [show gapAt (cw S i) (nI p) = cw S i 1 from (if_pos c9).trans (if_pos hlt)], rfl⟩
    · refine g_iconst (pc := 23) (v := 3) F dL_gap_23 (by decide) ?_
      refine g_goto (pc := 24) (tgt := 28) F dL_gap_24 (by decide) ?_
      refine g_iadd (pc := 28) F dL_gap_28 ?_
      refine g_cld (pc := 29) (i := i) (j := 3) F (ix8 i 3) (by omega) (by decide) dL_gap_29 ?_
      refine g_goto (pc := 30) (tgt := 40) F dL_gap_30 (by decide) ?_
      refine g_iret (pc := 40) F r dL_gap_40 ?_
      have hl : la = 2 := (LI_law2 hL).mp c9
      have hN := (LI_many hL).1 hl
      have e2 : cw S i 2 = nI b := hL.2.2.1
      have hlt : ¬ nI p < cw S i 2 := by
        rw [c20]
        exact Int32.lt_irrefl
      exact ⟨by rw [show gapAt (cw S i) (nI p) = cw S i 3 from (if_pos c9).trans (if_neg hlt)], rfl⟩

set_option maxHeartbeats 4000000 in
set_option maxRecDepth 100000 in
theorem c_L_bitsOf (l : Launch) (g : Gm) (M : Mem) (z : Nat) (hz : z < 64) : Cn l yL_bitsOf cL_bitsOf 3 (some .int) 0 0 g [.int (nI z)] M (fun v M2 => v = some (.int (nI (pop6 z))) ∧ M2 = M) := by
  refine Cn.intro (lv0 := [some (.int (nI z)), none, none]) 2 (by decide +kernel) (Nat.le_of_ble_eq_true rfl) rfl (fun X F r => ?_)
  refine g_iconst (pc := 0) (v := 0) F dL_bitsOf_0 (by decide) ?_
  refine g_istore_n (pc := 1) F dL_bitsOf_1 (by decide) rfl ?_
  refine g_iload_n (pc := 2) F dL_bitsOf_2 rfl ?_
  refine g_istore_n (pc := 3) F dL_bitsOf_3 (by decide) rfl ?_
  have L : ∀ (f l acc : Nat), l < 2 ^ f → l < 64 → acc + pop6 l = pop6 z → G X g 3 M 4 [some (.int (nI z)), some (.int (nI acc)), some (.int (nI l))] [] := by
    intro f
    induction f with
    | zero =>
      intro l acc h0 h1 h2
      refine g_iload_n (pc := 4) F dL_bitsOf_4 rfl ?_
      refine g_if_le (pc := 5) (tgt := 21) F dL_bitsOf_5 (by decide) (fun c5 => ?_) (fun c5 => ?_)
      · obtain rfl : l = 0 := Classical.byContradiction fun e => nI_nle (n := l) (by omega) (by omega) c5
        have hz0 : acc = pop6 z := by
          have : pop6 0 = 0 := rfl
          omega
        refine g_iload_n (pc := 21) F dL_bitsOf_21 rfl ?_
        refine g_iret (pc := 22) F r dL_bitsOf_22 ?_
        exact ⟨by rw [hz0], rfl⟩
      · exact absurd (show nI l ≤ 0 by rw [show l = 0 by have h1 : (2 : Nat) ^ 0 = 1 := rfl; omega]; decide) c5
    | succ f ih =>
      intro l acc h0 h1 h2
      refine g_iload_n (pc := 4) F dL_bitsOf_4 rfl ?_
      refine g_if_le (pc := 5) (tgt := 21) F dL_bitsOf_5 (by decide) (fun c5 => ?_) (fun c5 => ?_)
      · obtain rfl : l = 0 := Classical.byContradiction fun e => nI_nle (n := l) (by omega) (by omega) c5
        have hz0 : acc = pop6 z := by
          have : pop6 0 = 0 := rfl
          omega
        refine g_iload_n (pc := 21) F dL_bitsOf_21 rfl ?_
        refine g_iret (pc := 22) F r dL_bitsOf_22 ?_
        exact ⟨by rw [hz0], rfl⟩
      · obtain ⟨b1, b2, b3⟩ := bit_1 l h1
        refine g_iload_n (pc := 8) F dL_bitsOf_8 rfl ?_
        refine g_iload_n (pc := 9) F dL_bitsOf_9 rfl ?_
        refine g_iconst (pc := 10) (v := 1) F dL_bitsOf_10 (by decide) ?_
        refine g_iand (pc := 11) F dL_bitsOf_11 ?_
        refine g_iadd (pc := 12) F dL_bitsOf_12 ?_
        refine g_istore_n (pc := 13) F dL_bitsOf_13 (by decide) rfl ?_
        refine g_iload_n (pc := 14) F dL_bitsOf_14 rfl ?_
        refine g_iconst (pc := 15) (v := 1) F dL_bitsOf_15 (by decide) ?_
        refine g_ishr (pc := 16) F dL_bitsOf_16 ?_
        refine g_istore_n (pc := 17) F dL_bitsOf_17 (by decide) rfl ?_
        refine g_goto (pc := 18) (tgt := 4) F dL_bitsOf_18 (by decide) ?_
        refine G.sub [some (.int (nI z)), some (.int (nI (acc + l % 2))), some (.int (nI (l / 2)))] ⟨rfl, ?_, ?_, trivial⟩ (ih (l / 2) (acc + l % 2) (by rw [Nat.pow_succ] at h0; omega) (by omega) (by omega))
        · show some (Value.int (nI acc + (nI l &&& 1))) = _
          rw [b1, nI_add]
        · show some (Value.int (nI l >>> ((1 : Int32) &&& 31))) = _
          rw [b2]
  exact L 6 z 0 (by exact hz) hz (by omega)

theorem beg_chain (S : SV) (i : Nat) (q : Int32) : beg S i q = upd (upd (upd (upd S 3 (bx (cw S i) (S 3))) (4 + 15 * i + 5) (bplace (cw S i) (S 3) q)) (4 + 15 * i + 6) (gapAt (cw S i) (bplace (cw S i) (S 3) q))) (4 + 15 * i + 7) 0 := by
  unfold beg bw
  rw [setC_upd _ _ _ (by decide), setC_upd _ _ _ (by decide), setC_upd _ _ _ (by decide), setC_cw]
  rw [upd_comm _ (show 4 + 15 * i + 7 ≠ 3 by omega), upd_comm _ (show 4 + 15 * i + 6 ≠ 3 by omega), upd_comm _ (show 4 + 15 * i + 5 ≠ 3 by omega)]
theorem turn_place {p N : Nat} (hp : p < N) (hN : N ≤ 51) : (if nI p = nI N - 1 then (0 : Int32) else nI p + 1) = jrem (nI p + 1) (nI N) := by
  rw [nI_1, jrem_nI (by omega) (by omega) (by omega)]
  have e1 : nI N - 1 = nI (N - 1) := nI_sub (b := 1) (a := N) (by omega)
  rw [e1]
  by_cases h : p = N - 1
  · rw [if_pos (by rw [h]), show p + 1 = N by omega, Nat.mod_self]
    exact nI_0.symm
  · rw [if_neg (fun e => h ((nI_inj (by omega) (by omega)).mp e)), Nat.mod_eq_of_lt (by omega)]
theorem upd_same (f : Nat → Int32) (k : Nat) : upd f k (f k) = f := by
  funext j
  rw [upd_get]
  split
  · next h => rw [h]
  · rfl
set_option maxHeartbeats 4000000 in
set_option maxRecDepth 100000 in
theorem c_L_begins (l : Launch) (g : Gm) (M : Mem) (S : SV) (i : Nat) (hi : i < 6) (la a b c d : Nat) (hL : LI (cw S i) la a b c d) (x : Nat) (hx : x < 10000) (h3 : S 3 = nI x) (p : Nat) (h5 : cw S i 5 = nI p) (hp : p < NP la b c d) : Cn l yL_begins cL_begins 4 none 1 23 g [.ref (ad g 224), .ref (ad g 225), .int (nI i)] (WM M S) (fun v M2 => v = none ∧ M2 = WM M (beg S i (cw S i 5 + 1))) := by
  refine Cn.intro (lv0 := [some (.ref (ad g 224)), some (.ref (ad g 225)), some (.int (nI i)), none]) 1 (by decide +kernel) (Nat.le_of_ble_eq_true rfl) rfl (fun X F r => ?_)
  have hB := hL.2.2.2.2.2.2.2.2.1
  have hP := (NP_bound (la := la) (b := b) (c := c) (d := d) hB).2
  have hP1 := (NP_bound (la := la) (b := b) (c := c) (d := d) hB).1
  have hPn : ¬ nI (NP la b c d) = 0 := nI_ne0 (by omega) (by omega)
  obtain ⟨p2, hp2, hpe⟩ := bplace_nI hL hx (show p + 1 < 2147483648 by omega)
  rw [← h3, ← nI_1, ← h5] at hpe
  have hlo : ∀ j, j < 5 → cw (upd (upd S 3 (bx (cw S i) (S 3))) (4 + 15 * i + 5) (bplace (cw S i) (S 3) (cw S i 5 + 1))) i j = cw S i j := fun j hj => by
    unfold cw
    rw [upd_ne _ _ (by omega), upd_ne _ _ (by omega)]
  have hL2 : LI (cw (upd (upd S 3 (bx (cw S i) (S 3))) (4 + 15 * i + 5) (bplace (cw S i) (S 3) (cw S i 5 + 1))) i) la a b c d := LI_congr hL hlo
  have e52 : cw (upd (upd S 3 (bx (cw S i) (S 3))) (4 + 15 * i + 5) (bplace (cw S i) (S 3) (cw S i 5 + 1))) i 5 = nI p2 := by
    rw [← hpe]
    unfold cw
    rw [upd_self]
  have hg2 : cw S i 0 = 2 ∨ ∃ j, j < 4 ∧ nI p2 = nI j := by
    by_cases h2 : la = 2
    · exact Or.inl ((LI_law2 hL).mpr h2)
    · exact Or.inr ⟨p2, Nat.lt_of_lt_of_le hp2 (NP4 h2), rfl⟩
  have T : G X g 4 (WM M (upd (upd S 3 (bx (cw S i) (S 3))) (4 + 15 * i + 5) (bplace (cw S i) (S 3) (cw S i 5 + 1)))) 86 [some (.ref (ad g 224)), some (.ref (ad g 225)), some (.int (nI i)), some (.int (nI (NP la b c d)))] [] := by
    refine g_aload_n (pc := 86) F dL_begins_86 rfl ?_
    refine g_bipush (pc := 87) (v := 8) F dL_begins_87 (by decide) ?_
    refine g_iload_n (pc := 89) F dL_begins_89 rfl ?_
    refine g_imul (pc := 90) F dL_begins_90 ?_
    refine g_bipush (pc := 91) (v := 6) F dL_begins_91 (by decide) ?_
    refine g_iadd (pc := 93) F dL_begins_93 ?_
    refine g_aload_n (pc := 94) F dL_begins_94 rfl ?_
    refine g_iload_n (pc := 95) F dL_begins_95 rfl ?_
    refine g_aload_n (pc := 96) F dL_begins_96 rfl ?_
    refine g_bipush (pc := 97) (v := 8) F dL_begins_97 (by decide) ?_
    refine g_iload_n (pc := 99) F dL_begins_99 rfl ?_
    refine g_imul (pc := 100) F dL_begins_100 ?_
    refine g_iconst (pc := 101) (v := 5) F dL_begins_101 (by decide) ?_
    refine g_iadd (pc := 102) F dL_begins_102 ?_
    refine g_cld (pc := 103) (i := i) (j := 5) F (ix8 i 5) (by omega) (by decide) dL_begins_103 ?_
    refine g_stk (st' := [.int (nI p2), .int (nI i), .ref (ad g 225), .int (8 * nI i + 6), .ref (ad g 225)]) (by rw [e52] <;> rfl) ?_
    refine g_callS (pc := 104) (rf2 := 0) (rl2 := 0) F cs_L_15 (by rfl) (by rfl) (Nat.le_of_ble_eq_true (by rfl)) (by decide) dL_begins_104 (c_L_gap _ g M (upd (upd S 3 (bx (cw S i) (S 3))) (4 + 15 * i + 5) (bplace (cw S i) (S 3) (cw S i 5 + 1))) i hi la a b c d hL2 p2 hp2) (fun v M2 hz => ?_)
    obtain ⟨rfl, rfl⟩ := hz
    refine g_cst (pc := 107) (i := i) (j := 6) F (ix8 i 6) (by omega) (by decide) dL_begins_107 ?_
    refine g_aload_n (pc := 108) F dL_begins_108 rfl ?_
    refine g_bipush (pc := 109) (v := 8) F dL_begins_109 (by decide) ?_
    refine g_iload_n (pc := 111) F dL_begins_111 rfl ?_
    refine g_imul (pc := 112) F dL_begins_112 ?_
    refine g_bipush (pc := 113) (v := 7) F dL_begins_113 (by decide) ?_
    refine g_iadd (pc := 115) F dL_begins_115 ?_
    refine g_iconst (pc := 116) (v := 0) F dL_begins_116 (by decide) ?_
    refine g_cst (pc := 117) (i := i) (j := 7) F (ix8 i 7) (by omega) (by decide) dL_begins_117 ?_
    refine g_vret (pc := 118) F r dL_begins_118 ?_
    refine ⟨rfl, ?_⟩
    rw [beg_chain, gapAt_congr (w := cw S i) (p := nI p2) hlo hg2, hpe]
  refine g_aload_n (pc := 0) F dL_begins_0 rfl ?_
  refine g_iload_n (pc := 1) F dL_begins_1 rfl ?_
  refine g_callS (pc := 2) (rf2 := 0) (rl2 := 0) F cs_L_9 (by rfl) (by rfl) (Nat.le_of_ble_eq_true (by rfl)) (by decide) dL_begins_2 (c_L_many _ g M S i hi la a b c d hL) (fun v M2 hz => ?_)
  obtain ⟨rfl, rfl⟩ := hz
  refine g_istore_n (pc := 5) F dL_begins_5 (by decide) rfl ?_
  refine g_aload_n (pc := 6) F dL_begins_6 rfl ?_
  refine g_bipush (pc := 7) (v := 8) F dL_begins_7 (by decide) ?_
  refine g_iload_n (pc := 9) F dL_begins_9 rfl ?_
  refine g_imul (pc := 10) F dL_begins_10 ?_
  refine g_cld (pc := 11) (i := i) (j := 0) F (ix80 i) (by omega) (by decide) dL_begins_11 ?_
  refine g_iconst (pc := 12) (v := 1) F dL_begins_12 (by decide) ?_
  refine g_icmp_ne (pc := 13) (tgt := 50) F dL_begins_13 (by decide) (fun c13 => ?_) (fun c13 => ?_)
  · have ebx : bx (cw S i) (S 3) = S 3 := if_neg c13
    have ebp : bplace (cw S i) (S 3) (cw S i 5 + 1) = jrem (cw S i 5 + 1) (places (cw S i)) := if_neg c13
    refine g_aload_n (pc := 50) F dL_begins_50 rfl ?_
    refine g_bipush (pc := 51) (v := 8) F dL_begins_51 (by decide) ?_
    refine g_iload_n (pc := 53) F dL_begins_53 rfl ?_
    refine g_imul (pc := 54) F dL_begins_54 ?_
    refine g_iconst (pc := 55) (v := 5) F dL_begins_55 (by decide) ?_
    refine g_iadd (pc := 56) F dL_begins_56 ?_
    refine g_aload_n (pc := 57) F dL_begins_57 rfl ?_
    refine g_bipush (pc := 58) (v := 8) F dL_begins_58 (by decide) ?_
    refine g_iload_n (pc := 60) F dL_begins_60 rfl ?_
    refine g_imul (pc := 61) F dL_begins_61 ?_
    refine g_iconst (pc := 62) (v := 5) F dL_begins_62 (by decide) ?_
    refine g_iadd (pc := 63) F dL_begins_63 ?_
    refine g_cld (pc := 64) (i := i) (j := 5) F (ix8 i 5) (by omega) (by decide) dL_begins_64 ?_
    refine g_iload_n (pc := 65) F dL_begins_65 rfl ?_
    refine g_iconst (pc := 66) (v := 1) F dL_begins_66 (by decide) ?_
    refine g_isub (pc := 67) F dL_begins_67 ?_
    refine g_icmp_ne (pc := 68) (tgt := 75) F dL_begins_68 (by decide) (fun c68 => ?_) (fun c68 => ?_)
    · refine g_aload_n (pc := 75) F dL_begins_75 rfl ?_
      refine g_bipush (pc := 76) (v := 8) F dL_begins_76 (by decide) ?_
      refine g_iload_n (pc := 78) F dL_begins_78 rfl ?_
      refine g_imul (pc := 79) F dL_begins_79 ?_
      refine g_iconst (pc := 80) (v := 5) F dL_begins_80 (by decide) ?_
      refine g_iadd (pc := 81) F dL_begins_81 ?_
      refine g_cld (pc := 82) (i := i) (j := 5) F (ix8 i 5) (by omega) (by decide) dL_begins_82 ?_
      refine g_iconst (pc := 83) (v := 1) F dL_begins_83 (by decide) ?_
      refine g_iadd (pc := 84) F dL_begins_84 ?_
      refine g_cst (pc := 85) (i := i) (j := 5) F (ix8 i 5) (by omega) (by decide) dL_begins_85 ?_
      refine G.mem (M' := WM M (upd (upd S 3 (bx (cw S i) (S 3))) (4 + 15 * i + 5) (bplace (cw S i) (S 3) (cw S i 5 + 1)))) ?_ T
      rw [ebx, ebp, LI_places hL, upd_same, h5, ← turn_place hp hP, if_neg (by rw [← h5]; exact c68)]
    · refine g_iconst (pc := 71) (v := 0) F dL_begins_71 (by decide) ?_
      refine g_goto (pc := 72) (tgt := 85) F dL_begins_72 (by decide) ?_
      refine g_cst (pc := 85) (i := i) (j := 5) F (ix8 i 5) (by omega) (by decide) dL_begins_85 ?_
      refine G.mem (M' := WM M (upd (upd S 3 (bx (cw S i) (S 3))) (4 + 15 * i + 5) (bplace (cw S i) (S 3) (cw S i 5 + 1)))) ?_ T
      rw [ebx, ebp, LI_places hL, upd_same, h5, ← turn_place hp hP, if_pos (by rw [← h5]; exact c68)]
  · have ebx : bx (cw S i) (S 3) = xnext (S 3) := if_pos c13
    have ebp : bplace (cw S i) (S 3) (cw S i 5 + 1) = jrem (xnext (S 3)) (places (cw S i)) := if_pos c13
    refine g_aload_n (pc := 16) F dL_begins_16 rfl ?_
    refine g_iconst (pc := 17) (v := 3) F dL_begins_17 (by decide) ?_
    refine g_sipush (pc := 18) (v := 421) F dL_begins_18 (by decide) ?_
    refine g_aload_n (pc := 21) F dL_begins_21 rfl ?_
    refine g_iconst (pc := 22) (v := 3) F dL_begins_22 (by decide) ?_
    refine g_gld (pc := 23) (j := 3) F rfl (by decide) dL_begins_23 ?_
    refine g_imul (pc := 24) F dL_begins_24 ?_
    refine g_sipush (pc := 25) (v := 1663) F dL_begins_25 (by decide) ?_
    refine g_iadd (pc := 28) F dL_begins_28 ?_
    refine g_sipush (pc := 29) (v := 10000) F dL_begins_29 (by decide) ?_
    refine g_irem (pc := 32) F (by decide) dL_begins_32 ?_
    refine g_gst (pc := 33) (j := 3) F rfl (by decide) dL_begins_33 ?_
    refine g_aload_n (pc := 34) F dL_begins_34 rfl ?_
    refine g_bipush (pc := 35) (v := 8) F dL_begins_35 (by decide) ?_
    refine g_iload_n (pc := 37) F dL_begins_37 rfl ?_
    refine g_imul (pc := 38) F dL_begins_38 ?_
    refine g_iconst (pc := 39) (v := 5) F dL_begins_39 (by decide) ?_
    refine g_iadd (pc := 40) F dL_begins_40 ?_
    refine g_aload_n (pc := 41) F dL_begins_41 rfl ?_
    refine g_iconst (pc := 42) (v := 3) F dL_begins_42 (by decide) ?_
    refine g_gld (pc := 43) (j := 3) F rfl (by decide) dL_begins_43 ?_
    refine g_iload_n (pc := 44) F dL_begins_44 rfl ?_
    refine g_irem (pc := 45) F hPn dL_begins_45 ?_
    refine g_cst (pc := 46) (i := i) (j := 5) F (ix8 i 5) (by omega) (by decide) dL_begins_46 ?_
    refine g_goto (pc := 47) (tgt := 86) F dL_begins_47 (by decide) ?_
    refine G.mem (M' := WM M (upd (upd S 3 (bx (cw S i) (S 3))) (4 + 15 * i + 5) (bplace (cw S i) (S 3) (cw S i 5 + 1)))) ?_ T
    rw [ebx, ebp, LI_places hL, upd_self]
    rw [show jrem ((421 : Int32) * S 3 + 1663) 10000 = xnext (S 3) by rw [Int32.mul_comm]; rfl]
end
section
/-! THE LAW'S TICK -/
section GLAWS
variable {X : XT} {g : Gm} {cc : ByteArray} {nL : Nat} {own : String} {rf rl : Nat} {M : Mem} {S : SV} {w : Nat → Int32} {pc : Nat} {lv : List (Option Value)} {st : List Value}
theorem g_cldS (F : FX X g cc nL own rf rl) {i j : Nat} {x : Int32} (hx : x = nI (8 * i + j)) (hi : i < 6) (hj : j < 8) (hd : decode cc pc = .ok (.iaload, 1)) (k : G X g nL (WM M (setC S i w)) (pc + 1) lv (.int (w j) :: st)) : G X g nL (WM M (setC S i w)) pc lv (.int x :: .ref (ad g 225) :: st) :=
  g_cld F hx hi hj hd (by rw [cw_setC _ _ _ (by omega)]; exact k)
theorem g_vldS (F : FX X g cc nL own rf rl) {i j : Nat} {x : Int32} (hx : x = nI (7 * i + j)) (hi : i < 6) (hj : j < 7) (hd : decode cc pc = .ok (.iaload, 1)) (k : G X g nL (WM M (setC S i w)) (pc + 1) lv (.int (w (8 + j)) :: st)) : G X g nL (WM M (setC S i w)) pc lv (.int x :: .ref (ad g 226) :: st) :=
  g_vld F hx hi hj hd (by rw [cw_setC _ _ _ (by omega)]; exact k)
theorem g_qldS (F : FX X g cc nL own rf rl) {i j : Nat} {x : Int32} (hx : x = nI (4 * i + j)) (hi : i < 4) (hj : j < 4) (hd : decode cc pc = .ok (.iaload, 1)) (k : G X g nL (WM M (setGr S i w)) (pc + 1) lv (.int (w j) :: st)) : G X g nL (WM M (setGr S i w)) pc lv (.int x :: .ref (ad g 227) :: st) :=
  g_qld F hx hi hj hd (by rw [gw_setGr _ _ _ hj]; exact k)
theorem g_cstS (F : FX X g cc nL own rf rl) {i j : Nat} {x v : Int32} (hx : x = nI (8 * i + j)) (hi : i < 6) (hj : j < 8) (hd : decode cc pc = .ok (.iastore, 1)) (k : G X g nL (WM M (setC S i (upd w j v))) (pc + 1) lv st) : G X g nL (WM M (setC S i w)) pc lv (.int v :: .int x :: .ref (ad g 225) :: st) :=
  g_cst F hx hi hj hd (by rw [← setC_upd _ _ _ (by omega)]; exact k)
theorem g_vstS (F : FX X g cc nL own rf rl) {i j : Nat} {x v : Int32} (hx : x = nI (7 * i + j)) (hi : i < 6) (hj : j < 7) (hd : decode cc pc = .ok (.iastore, 1)) (k : G X g nL (WM M (setC S i (upd w (8 + j) v))) (pc + 1) lv st) : G X g nL (WM M (setC S i w)) pc lv (.int v :: .int x :: .ref (ad g 226) :: st) :=
  g_vst F hx hi hj hd (by rw [← setC_upd _ _ _ (by omega)]; exact k)
theorem g_qstS (F : FX X g cc nL own rf rl) {i j : Nat} {x v : Int32} (hx : x = nI (4 * i + j)) (hi : i < 4) (hj : j < 4) (hd : decode cc pc = .ok (.iastore, 1)) (k : G X g nL (WM M (setGr S i (upd w j v))) (pc + 1) lv st) : G X g nL (WM M (setGr S i w)) pc lv (.int v :: .int x :: .ref (ad g 227) :: st) :=
  g_qst F hx hi hj hd (by rw [← setGr_upd _ _ _ hj]; exact k)
theorem G.toC (i : Nat) (k : G X g nL (WM M (setC S i (cw S i))) pc lv st) : G X g nL (WM M S) pc lv st := G.mem (by rw [setC_cw]) k
theorem G.toG (i : Nat) (k : G X g nL (WM M (setGr S i (gw S i))) pc lv st) : G X g nL (WM M S) pc lv st := G.mem (by rw [setGr_gw]) k
theorem G.sv {S' : SV} (h : S = S') (k : G X g nL (WM M S') pc lv st) : G X g nL (WM M S) pc lv st := h ▸ k
end GLAWS
theorem setGr_congr (S : SV) (i : Nat) {w w' : Nat → Int32} (h : ∀ j, j < 4 → w j = w' j) : setGr S i w = setGr S i w' := by
  funext k
  unfold setGr
  split
  · exact h _ (by omega)
  · rfl
theorem bit_add : ∀ i, i < 6 → ∀ z, z < 64 → z < 2 ^ i → nI z + (1 <<< (nI i &&& 31)) = nI z ||| (1 <<< (nI i &&& 31)) := by decide +kernel
theorem tC_iff (a b : Int32) : a - b = 0 ↔ b = a := by
  rw [Int32.sub_eq_iff_eq_add, Int32.zero_add]
  exact ⟨Eq.symm, Eq.symm⟩
theorem gtick_law {r : Nat → Int32} {y z : Nat} (hy : y < 64) (hz : z < 64) (h1 : r 1 = nI y) {b : Int32} (hb : b = if pop6 (z &&& y) < 2 then 0 else 1) : ∀ j, j < 4 → upd (upd r 2 (r 2 + nI (pop6 (z &&& y)))) 3 (r 3 + b) j = gtick r (nI z) j := by
  intro j hj
  obtain ⟨q1, q2⟩ := iand_nI y hy z hz
  have e : jbc (r 1 &&& nI z) = nI (pop6 (z &&& y)) := by rw [h1, q1, jbc_nI _ q2, Nat.and_comm]
  have hp : pop6 (z &&& y) ≤ 6 := by rw [Nat.and_comm]; exact pop6_le _ q2
  unfold gtick
  rw [e, hb]
  match j, hj with
  | 0, _ => rfl
  | 1, _ => rfl
  | 2, _ => rfl
  | 3, _ =>
    show r 3 + (if pop6 (z &&& y) < 2 then 0 else 1) = (if nI (pop6 (z &&& y)) < 2 then r 3 else r 3 + 1)
    by_cases hc : pop6 (z &&& y) < 2
    · rw [if_pos hc, if_pos (show nI (pop6 (z &&& y)) < 2 from (nI_ltI (b := 2) (by omega) (by decide)).mpr hc), Int32.add_zero]
    · rw [if_neg hc, if_neg (show ¬ nI (pop6 (z &&& y)) < 2 from fun e => hc ((nI_ltI (b := 2) (by omega) (by decide)).mp e))]
set_option maxHeartbeats 4000000 in
set_option maxRecDepth 100000 in
theorem c_L_ticks (l : Launch) (g : Gm) (M : Mem) (S : SV) (t : Nat) (hi : Inv S t) : Cn l yL_ticks cL_ticks 7 (some .int) 2 46 g [.ref (ad g 224), .ref (ad g 225), .ref (ad g 226), .ref (ad g 227)] (WM M S) (fun v M2 => v = some (.int (jbc (endsZ S))) ∧ M2 = WM M (ends S)) := by
  refine Cn.intro (lv0 := [some (.ref (ad g 224)), some (.ref (ad g 225)), some (.ref (ad g 226)), some (.ref (ad g 227)), none, none, none]) 3 (by decide +kernel) (Nat.le_of_ble_eq_true rfl) rfl (fun X F r => ?_)
  have hn := hi.cn_le
  have hm := hi.gn_le
  obtain ⟨a1, -, a3, -, -, z, hz, a6⟩ := eC_inv hi (cn S) (Nat.le_refl _)
  have hz6 : z < 64 := Nat.lt_of_lt_of_le hz (Nat.le_trans (Nat.pow_le_pow_right (by decide) hn.1) (by decide))
  have hG : ∀ k, k < gn S → GI (gw (eC S (cn S)).1 k) t := fun k hk => GI_congr (hi.2.2.2.2.2.2 k hk) (fun j hj => a3 k j hj)
  refine g_iconst (pc := 0) (v := 0) F dL_ticks_0 (by decide) ?_
  refine g_istore (pc := 1) F dL_ticks_1 (by decide) rfl ?_
  refine g_iconst (pc := 3) (v := 0) F dL_ticks_3 (by decide) ?_
  refine g_istore (pc := 4) F dL_ticks_4 (by decide) rfl ?_
  have T2 : ∀ (n j : Nat), j + n = gn S → G X g 7 (WM M (eG (eC S (cn S)).1 (nI z) j)) 159 [some (.ref (ad g 224)), some (.ref (ad g 225)), some (.ref (ad g 226)), some (.ref (ad g 227)), some (.int (nI z)), some (.int (nI (4 * j))), none] [] := by
    intro n
    induction n with
    | zero =>
      intro j hj
      obtain rfl : j = gn S := by omega
      obtain ⟨b1, b2, b3, b4⟩ := eG_inv hz6 t (gn S) hm.1 hG (gn S) (by omega)
      have e1 : eG (eC S (cn S)).1 (nI z) (gn S) 1 = S 1 := (b1 1 (by decide)).trans (a1 1 (by decide))
      have e2 : eG (eC S (cn S)).1 (nI z) (gn S) 2 = S 2 := (b1 2 (by decide)).trans (a1 2 (by decide))
      refine g_iload (pc := 159) F dL_ticks_159 rfl ?_
      refine g_iconst (pc := 161) (v := 4) F dL_ticks_161 (by decide) ?_
      refine g_aload_n (pc := 162) F dL_ticks_162 rfl ?_
      refine g_iconst (pc := 163) (v := 1) F dL_ticks_163 (by decide) ?_
      refine g_gld (pc := 164) (j := 1) F rfl (by decide) dL_ticks_164 ?_
      refine g_imul (pc := 165) F dL_ticks_165 ?_
      refine g_stk (st' := [.int (nI (4 * gn S)), .int (nI (4 * gn S))]) (by rw [e1, hm.2, show (4 : Int32) = nI 4 from rfl, nI_mul]) ?_
      refine g_icmp_ge (pc := 166) (tgt := 220) F dL_ticks_166 (by decide) (fun c166 => ?_) (fun c166 => ?_)
      · refine g_aload_n (pc := 220) F dL_ticks_220 rfl ?_
        refine g_iconst (pc := 221) (v := 2) F dL_ticks_221 (by decide) ?_
        refine g_dup2 (pc := 222) F dL_ticks_222 rfl rfl ?_
        refine g_gld (pc := 223) (j := 2) F rfl (by decide) dL_ticks_223 ?_
        refine g_iconst (pc := 224) (v := 1) F dL_ticks_224 (by decide) ?_
        refine g_iadd (pc := 225) F dL_ticks_225 ?_
        refine g_gst (pc := 226) (j := 2) F rfl (by decide) dL_ticks_226 ?_
        refine g_iload (pc := 227) F dL_ticks_227 rfl ?_
        refine g_callS (pc := 229) (rf2 := 0) (rl2 := 0) F cs_L_23 (by rfl) (by rfl) (Nat.le_of_ble_eq_true (by rfl)) (by decide) dL_ticks_229 (c_L_bitsOf _ g _ z hz6) (fun v M2 hz => ?_)
        obtain ⟨rfl, rfl⟩ := hz
        refine g_iret (pc := 232) F r dL_ticks_232 ?_
        refine ⟨by rw [show endsZ S = nI z from a6, jbc_nI z hz6], ?_⟩
        rw [e2]
        unfold ends
        rw [a6]
      · exact absurd (Int32.le_refl _) c166
    | succ n ih =>
      intro j hj
      obtain ⟨b1, b2, b3, b4⟩ := eG_inv hz6 t (gn S) hm.1 hG j (by omega)
      have e1 : eG (eC S (cn S)).1 (nI z) j 1 = S 1 := (b1 1 (by decide)).trans (a1 1 (by decide))
      have e2 : eG (eC S (cn S)).1 (nI z) j 2 = S 2 := (b1 2 (by decide)).trans (a1 2 (by decide))
      obtain ⟨la, y, mt, y0, y5, y1', y2, y3, y4, y6⟩ := hG j (by omega)
      have hp6 := pop6_le _ (iand_nI z hz6 y y2).2
      have y1 : gw (eG (eC S (cn S)).1 (nI z) j) j 1 = nI y := (b3 j (Nat.le_refl j) 1 (by decide)).trans y1'
      refine g_iload (pc := 159) F dL_ticks_159 rfl ?_
      refine g_iconst (pc := 161) (v := 4) F dL_ticks_161 (by decide) ?_
      refine g_aload_n (pc := 162) F dL_ticks_162 rfl ?_
      refine g_iconst (pc := 163) (v := 1) F dL_ticks_163 (by decide) ?_
      refine g_gld (pc := 164) (j := 1) F rfl (by decide) dL_ticks_164 ?_
      refine g_imul (pc := 165) F dL_ticks_165 ?_
      refine g_stk (st' := [.int (nI (4 * gn S)), .int (nI (4 * j))]) (by rw [e1, hm.2, show (4 : Int32) = nI 4 from rfl, nI_mul]) ?_
      refine g_icmp_ge (pc := 166) (tgt := 220) F dL_ticks_166 (by decide) (fun c166 => ?_) (fun c166 => ?_)
      · exact absurd c166 (nI_ge (by omega) (by omega))
      · refine G.toG j ?_
        refine g_iload (pc := 169) F dL_ticks_169 rfl ?_
        refine g_aload_n (pc := 171) F dL_ticks_171 rfl ?_
        refine g_iload (pc := 172) F dL_ticks_172 rfl ?_
        refine g_iconst (pc := 174) (v := 1) F dL_ticks_174 (by decide) ?_
        refine g_iadd (pc := 175) F dL_ticks_175 ?_
        refine g_qldS (pc := 176) (i := j) (j := 1) F (nI_1 (4 * j)) (by omega) (by decide) dL_ticks_176 ?_
        refine g_iand (pc := 177) F dL_ticks_177 ?_
        refine g_stk (st' := [.int (nI (z &&& y))]) (by rw [y1, (iand_nI z hz6 y y2).1]) ?_
        refine g_callS (pc := 178) (rf2 := 0) (rl2 := 0) F cs_L_23 (by rfl) (by rfl) (Nat.le_of_ble_eq_true (by rfl)) (by decide) dL_ticks_178 (c_L_bitsOf _ g _ (z &&& y) (iand_nI z hz6 y y2).2) (fun v M2 hz => ?_)
        obtain ⟨rfl, rfl⟩ := hz
        refine g_istore (pc := 181) F dL_ticks_181 (by decide) rfl ?_
        refine g_aload_n (pc := 183) F dL_ticks_183 rfl ?_
        refine g_iload (pc := 184) F dL_ticks_184 rfl ?_
        refine g_iconst (pc := 186) (v := 2) F dL_ticks_186 (by decide) ?_
        refine g_iadd (pc := 187) F dL_ticks_187 ?_
        refine g_dup2 (pc := 188) F dL_ticks_188 rfl rfl ?_
        refine g_qldS (pc := 189) (i := j) (j := 2) F (nI_add (4 * j) 2) (by omega) (by decide) dL_ticks_189 ?_
        refine g_iload (pc := 190) F dL_ticks_190 rfl ?_
        refine g_iadd (pc := 192) F dL_ticks_192 ?_
        refine g_qstS (pc := 193) (i := j) (j := 2) F (nI_add (4 * j) 2) (by omega) (by decide) dL_ticks_193 ?_
        refine g_aload_n (pc := 194) F dL_ticks_194 rfl ?_
        refine g_iload (pc := 195) F dL_ticks_195 rfl ?_
        refine g_iconst (pc := 197) (v := 3) F dL_ticks_197 (by decide) ?_
        refine g_iadd (pc := 198) F dL_ticks_198 ?_
        refine g_dup2 (pc := 199) F dL_ticks_199 rfl rfl ?_
        refine g_qldS (pc := 200) (i := j) (j := 3) F (nI_add (4 * j) 3) (by omega) (by decide) dL_ticks_200 ?_
        refine g_iload (pc := 201) F dL_ticks_201 rfl ?_
        refine g_iconst (pc := 203) (v := 2) F dL_ticks_203 (by decide) ?_
        refine g_icmp_ge (pc := 204) (tgt := 211) F dL_ticks_204 (by decide) (fun c204 => ?_) (fun c204 => ?_)
        · have hc : ¬ pop6 (z &&& y) < 2 := fun e => nI_ge (b := 2) e (by decide) c204
          refine g_iconst (pc := 211) (v := 1) F dL_ticks_211 (by decide) ?_
          refine g_iadd (pc := 212) F dL_ticks_212 ?_
          refine g_qstS (pc := 213) (i := j) (j := 3) F (nI_add (4 * j) 3) (by omega) (by decide) dL_ticks_213 ?_
          refine G.sv (S' := eG (eC S (cn S)).1 (nI z) (j + 1)) (setGr_congr _ _ (gtick_law y2 hz6 y1 (b := 1) (by rw [if_neg hc]))) ?_
          refine g_iinc (pc := 214) (v := nI (4 * (j + 1))) F dL_ticks_214 rfl (nI_add (4 * j) 4) (by decide) rfl ?_
          refine g_goto (pc := 217) (tgt := 159) F dL_ticks_217 (by decide) ?_
          exact G.sub [some (.ref (ad g 224)), some (.ref (ad g 225)), some (.ref (ad g 226)), some (.ref (ad g 227)), some (.int (nI z)), some (.int (nI (4 * (j + 1)))), none] ⟨rfl, rfl, rfl, rfl, rfl, rfl, trivial⟩ (ih (j + 1) (by omega))
        · have hc : pop6 (z &&& y) < 2 := Classical.byContradiction fun e => c204 (nI_le (a := 2) (by omega) (by omega))
          refine g_iconst (pc := 207) (v := 0) F dL_ticks_207 (by decide) ?_
          refine g_goto (pc := 208) (tgt := 212) F dL_ticks_208 (by decide) ?_
          refine g_iadd (pc := 212) F dL_ticks_212 ?_
          refine g_qstS (pc := 213) (i := j) (j := 3) F (nI_add (4 * j) 3) (by omega) (by decide) dL_ticks_213 ?_
          refine G.sv (S' := eG (eC S (cn S)).1 (nI z) (j + 1)) (setGr_congr _ _ (gtick_law y2 hz6 y1 (b := 0) (by rw [if_pos hc]))) ?_
          refine g_iinc (pc := 214) (v := nI (4 * (j + 1))) F dL_ticks_214 rfl (nI_add (4 * j) 4) (by decide) rfl ?_
          refine g_goto (pc := 217) (tgt := 159) F dL_ticks_217 (by decide) ?_
          exact G.sub [some (.ref (ad g 224)), some (.ref (ad g 225)), some (.ref (ad g 226)), some (.ref (ad g 227)), some (.int (nI z)), some (.int (nI (4 * (j + 1)))), none] ⟨rfl, rfl, rfl, rfl, rfl, rfl, trivial⟩ (ih (j + 1) (by omega))
  have T1 : ∀ (n i : Nat), i + n = cn S → G X g 7 (WM M (eC S i).1) 6 [some (.ref (ad g 224)), some (.ref (ad g 225)), some (.ref (ad g 226)), some (.ref (ad g 227)), some (.int (eC S i).2), some (.int (nI i)), none] [] := by
    intro n
    induction n with
    | zero =>
      intro i hin
      obtain rfl : i = cn S := by omega
      obtain ⟨d1, ⟨x, hx, hx3⟩, d3, d4, d5, z1, z2, z6⟩ := eC_inv hi (cn S) (by omega)
      have d0 : (eC S (cn S)).1 0 = S 0 := d1 0 (by decide)
      refine g_iload (pc := 6) F dL_ticks_6 rfl ?_
      refine g_aload_n (pc := 8) F dL_ticks_8 rfl ?_
      refine g_iconst (pc := 9) (v := 0) F dL_ticks_9 (by decide) ?_
      refine g_gld (pc := 10) (j := 0) F rfl (by decide) dL_ticks_10 ?_
      refine g_icmp_ge (pc := 11) (tgt := 156) F dL_ticks_11 (by decide) (fun c11 => ?_) (fun c11 => ?_)
      · refine g_iconst (pc := 156) (v := 0) F dL_ticks_156 (by decide) ?_
        refine g_istore (pc := 157) F dL_ticks_157 (by decide) rfl ?_
        exact G.sub [some (.ref (ad g 224)), some (.ref (ad g 225)), some (.ref (ad g 226)), some (.ref (ad g 227)), some (.int (nI z)), some (.int (nI (4 * 0))), none] ⟨rfl, rfl, rfl, rfl, by rw [a6] <;> rfl, rfl, trivial⟩ (T2 (gn S) 0 (by omega))
      · exact absurd (show (eC S (cn S)).1 0 ≤ nI (cn S) by rw [d0, hn.2]; exact Int32.le_refl _) c11
    | succ n ih =>
      intro i hin
      obtain ⟨d1, ⟨x, hx, hx3⟩, d3, d4, d5, z1, z2, z6⟩ := eC_inv hi i (by omega)
      have d0 : (eC S i).1 0 = S 0 := d1 0 (by decide)
      obtain ⟨la, a, b, c, d, p, gp, ag, sm, sq, hL, h5, hp, h6, gp1, gp2, h7, ha, -⟩ := CI_congr (hi.2.2.2.2.2.1 i (by omega)) (fun j hj => d4 i (by omega) (Nat.le_refl i) j hj)
      have hL3 : LI (cw (setC (eC S i).1 i (tw (ow (cw (eC S i).1 i)))) i) la a b c d := LI_congr hL (fun j hj => (cw_setC _ _ _ (by omega)).trans (by
        unfold tw ow
        rw [upd_ne _ _ (by omega), upd_ne _ _ (by omega), upd_ne _ _ (by omega), upd_ne _ _ (by omega), upd_ne _ _ (by omega)]))
      have h53 : cw (setC (eC S i).1 i (tw (ow (cw (eC S i).1 i)))) i 5 = nI p := (cw_setC _ _ _ (by decide)).trans h5
      refine g_iload (pc := 6) F dL_ticks_6 rfl ?_
      refine g_aload_n (pc := 8) F dL_ticks_8 rfl ?_
      refine g_iconst (pc := 9) (v := 0) F dL_ticks_9 (by decide) ?_
      refine g_gld (pc := 10) (j := 0) F rfl (by decide) dL_ticks_10 ?_
      refine g_icmp_ge (pc := 11) (tgt := 156) F dL_ticks_11 (by decide) (fun c11 => ?_) (fun c11 => ?_)
      · exact absurd (show nI (cn S) ≤ nI i by rw [← hn.2, ← d0]; exact c11) (nI_ge (by omega) (by omega))
      · refine G.toC i ?_
        refine g_aload_n (pc := 14) F dL_ticks_14 rfl ?_
        refine g_bipush (pc := 15) (v := 8) F dL_ticks_15 (by decide) ?_
        refine g_iload (pc := 17) F dL_ticks_17 rfl ?_
        refine g_imul (pc := 19) F dL_ticks_19 ?_
        refine g_bipush (pc := 20) (v := 7) F dL_ticks_20 (by decide) ?_
        refine g_iadd (pc := 22) F dL_ticks_22 ?_
        refine g_dup2 (pc := 23) F dL_ticks_23 rfl rfl ?_
        refine g_cldS (pc := 24) (i := i) (j := 7) F (ix8 i 7) (by omega) (by decide) dL_ticks_24 ?_
        refine g_iconst (pc := 25) (v := 1) F dL_ticks_25 (by decide) ?_
        refine g_iadd (pc := 26) F dL_ticks_26 ?_
        refine g_cstS (pc := 27) (i := i) (j := 7) F (ix8 i 7) (by omega) (by decide) dL_ticks_27 ?_
        refine g_aload_n (pc := 28) F dL_ticks_28 rfl ?_
        refine g_bipush (pc := 29) (v := 8) F dL_ticks_29 (by decide) ?_
        refine g_iload (pc := 31) F dL_ticks_31 rfl ?_
        refine g_imul (pc := 33) F dL_ticks_33 ?_
        refine g_bipush (pc := 34) (v := 6) F dL_ticks_34 (by decide) ?_
        refine g_iadd (pc := 36) F dL_ticks_36 ?_
        refine g_cldS (pc := 37) (i := i) (j := 6) F (ix8 i 6) (by omega) (by decide) dL_ticks_37 ?_
        refine g_istore (pc := 38) F dL_ticks_38 (by decide) rfl ?_
        refine g_aload_n (pc := 40) F dL_ticks_40 rfl ?_
        refine g_bipush (pc := 41) (v := 8) F dL_ticks_41 (by decide) ?_
        refine g_iload (pc := 43) F dL_ticks_43 rfl ?_
        refine g_imul (pc := 45) F dL_ticks_45 ?_
        refine g_bipush (pc := 46) (v := 7) F dL_ticks_46 (by decide) ?_
        refine g_iadd (pc := 48) F dL_ticks_48 ?_
        refine g_cldS (pc := 49) (i := i) (j := 7) F (ix8 i 7) (by omega) (by decide) dL_ticks_49 ?_
        refine g_iload (pc := 50) F dL_ticks_50 rfl ?_
        refine g_icmp_ne (pc := 52) (tgt := 150) F dL_ticks_52 (by decide) (fun c52 => ?_) (fun c52 => ?_)
        · have hT : ¬ tC (eC S i).1 i := fun e => c52 ((tC_iff _ _).mp e)
          refine G.sv (S' := (eC S (i + 1)).1) ?_ ?_
          · show setC (eC S i).1 i (ow (cw (eC S i).1 i)) = sC (eC S i).1 i
            unfold sC
            rw [if_neg hT]
          refine g_iinc (pc := 150) (v := nI (i + 1)) F dL_ticks_150 rfl (nI_1 i) (by decide) rfl ?_
          refine g_goto (pc := 153) (tgt := 6) F dL_ticks_153 (by decide) ?_
          refine G.sub [some (.ref (ad g 224)), some (.ref (ad g 225)), some (.ref (ad g 226)), some (.ref (ad g 227)), some (.int (eC S (i + 1)).2), some (.int (nI (i + 1))), none] ⟨rfl, rfl, rfl, rfl, ?_, rfl, trivial⟩ (ih (i + 1) (by omega))
          show some (Value.int (eC S i).2) = some (Value.int (if tC (eC S i).1 i then (eC S i).2 ||| (1 <<< (nI i &&& 31)) else (eC S i).2))
          rw [if_neg hT]
        · have hT : tC (eC S i).1 i := (tC_iff _ _).mpr c52
          refine g_iload (pc := 55) F dL_ticks_55 rfl ?_
          refine g_iconst (pc := 57) (v := 1) F dL_ticks_57 (by decide) ?_
          refine g_iload (pc := 58) F dL_ticks_58 rfl ?_
          refine g_ishl (pc := 60) F dL_ticks_60 ?_
          refine g_iadd (pc := 61) F dL_ticks_61 ?_
          refine g_istore (pc := 62) F dL_ticks_62 (by decide) rfl ?_
          refine g_aload_n (pc := 64) F dL_ticks_64 rfl ?_
          refine g_bipush (pc := 65) (v := 7) F dL_ticks_65 (by decide) ?_
          refine g_iload (pc := 67) F dL_ticks_67 rfl ?_
          refine g_imul (pc := 69) F dL_ticks_69 ?_
          refine g_dup2 (pc := 70) F dL_ticks_70 rfl rfl ?_
          refine g_vldS (pc := 71) (i := i) (j := 0) F (ix70 i) (by omega) (by decide) dL_ticks_71 ?_
          refine g_iconst (pc := 72) (v := 1) F dL_ticks_72 (by decide) ?_
          refine g_iadd (pc := 73) F dL_ticks_73 ?_
          refine g_vstS (pc := 74) (i := i) (j := 0) F (ix70 i) (by omega) (by decide) dL_ticks_74 ?_
          refine g_aload_n (pc := 75) F dL_ticks_75 rfl ?_
          refine g_bipush (pc := 76) (v := 7) F dL_ticks_76 (by decide) ?_
          refine g_iload (pc := 78) F dL_ticks_78 rfl ?_
          refine g_imul (pc := 80) F dL_ticks_80 ?_
          refine g_iconst (pc := 81) (v := 1) F dL_ticks_81 (by decide) ?_
          refine g_iadd (pc := 82) F dL_ticks_82 ?_
          refine g_dup2 (pc := 83) F dL_ticks_83 rfl rfl ?_
          refine g_vldS (pc := 84) (i := i) (j := 1) F (ix7 i 1) (by omega) (by decide) dL_ticks_84 ?_
          refine g_iload (pc := 85) F dL_ticks_85 rfl ?_
          refine g_iadd (pc := 87) F dL_ticks_87 ?_
          refine g_vstS (pc := 88) (i := i) (j := 1) F (ix7 i 1) (by omega) (by decide) dL_ticks_88 ?_
          refine g_aload_n (pc := 89) F dL_ticks_89 rfl ?_
          refine g_bipush (pc := 90) (v := 7) F dL_ticks_90 (by decide) ?_
          refine g_iload (pc := 92) F dL_ticks_92 rfl ?_
          refine g_imul (pc := 94) F dL_ticks_94 ?_
          refine g_iconst (pc := 95) (v := 2) F dL_ticks_95 (by decide) ?_
          refine g_iadd (pc := 96) F dL_ticks_96 ?_
          refine g_dup2 (pc := 97) F dL_ticks_97 rfl rfl ?_
          refine g_vldS (pc := 98) (i := i) (j := 2) F (ix7 i 2) (by omega) (by decide) dL_ticks_98 ?_
          refine g_iload (pc := 99) F dL_ticks_99 rfl ?_
          refine g_iload (pc := 101) F dL_ticks_101 rfl ?_
          refine g_imul (pc := 103) F dL_ticks_103 ?_
          refine g_iadd (pc := 104) F dL_ticks_104 ?_
          refine g_vstS (pc := 105) (i := i) (j := 2) F (ix7 i 2) (by omega) (by decide) dL_ticks_105 ?_
          refine g_aload_n (pc := 106) F dL_ticks_106 rfl ?_
          refine g_bipush (pc := 107) (v := 7) F dL_ticks_107 (by decide) ?_
          refine g_iload (pc := 109) F dL_ticks_109 rfl ?_
          refine g_imul (pc := 111) F dL_ticks_111 ?_
          refine g_iconst (pc := 112) (v := 3) F dL_ticks_112 (by decide) ?_
          refine g_iadd (pc := 113) F dL_ticks_113 ?_
          refine g_iload (pc := 114) F dL_ticks_114 rfl ?_
          refine g_aload_n (pc := 116) F dL_ticks_116 rfl ?_
          refine g_bipush (pc := 117) (v := 7) F dL_ticks_117 (by decide) ?_
          refine g_iload (pc := 119) F dL_ticks_119 rfl ?_
          refine g_imul (pc := 121) F dL_ticks_121 ?_
          refine g_iconst (pc := 122) (v := 3) F dL_ticks_122 (by decide) ?_
          refine g_iadd (pc := 123) F dL_ticks_123 ?_
          refine g_vldS (pc := 124) (i := i) (j := 3) F (ix7 i 3) (by omega) (by decide) dL_ticks_124 ?_
          refine g_icmp_le (pc := 125) (tgt := 133) F dL_ticks_125 (by decide) (fun c125 => ?_) (fun c125 => ?_)
          · refine g_aload_n (pc := 133) F dL_ticks_133 rfl ?_
            refine g_bipush (pc := 134) (v := 7) F dL_ticks_134 (by decide) ?_
            refine g_iload (pc := 136) F dL_ticks_136 rfl ?_
            refine g_imul (pc := 138) F dL_ticks_138 ?_
            refine g_iconst (pc := 139) (v := 3) F dL_ticks_139 (by decide) ?_
            refine g_iadd (pc := 140) F dL_ticks_140 ?_
            refine g_vldS (pc := 141) (i := i) (j := 3) F (ix7 i 3) (by omega) (by decide) dL_ticks_141 ?_
            refine g_vstS (pc := 142) (i := i) (j := 3) F (ix7 i 3) (by omega) (by decide) dL_ticks_142 ?_
            refine G.sv (S' := setC (eC S i).1 i (tw (ow (cw (eC S i).1 i)))) (setC_congr _ _ (fun q hq => ?_)) ?_
            · show upd _ 11 (cw (eC S i).1 i 11) q = upd _ 11 (if cw (eC S i).1 i 6 < cw (eC S i).1 i 11 then cw (eC S i).1 i 11 else cw (eC S i).1 i 6) q
              have c5 : cw (eC S i).1 i 6 ≤ cw (eC S i).1 i 11 := c125
              by_cases hlt : cw (eC S i).1 i 6 < cw (eC S i).1 i 11
              · rw [if_pos hlt] <;> rfl
              · rw [if_neg hlt, ← Int32.le_antisymm c5 (Int32.not_lt.mp hlt)] <;> rfl
            refine g_aload_n (pc := 143) F dL_ticks_143 rfl ?_
            refine g_aload_n (pc := 144) F dL_ticks_144 rfl ?_
            refine g_iload (pc := 145) F dL_ticks_145 rfl ?_
            refine g_callS (pc := 147) (rf2 := 1) (rl2 := 23) F cs_L_19 (by rfl) (by rfl) (Nat.le_of_ble_eq_true (by rfl)) (by decide) dL_ticks_147 (c_L_begins _ g M (setC (eC S i).1 i (tw (ow (cw (eC S i).1 i)))) i (by omega) la a b c d hL3 x hx (by rw [setC_lo _ _ _ (by decide)]; exact hx3) p h53 hp) (fun v M2 hz => ?_)
            obtain ⟨rfl, rfl⟩ := hz
            refine G.sv (S' := (eC S (i + 1)).1) ?_ ?_
            · show beg (setC (eC S i).1 i (tw (ow (cw (eC S i).1 i)))) i (cw (setC (eC S i).1 i (tw (ow (cw (eC S i).1 i)))) i 5 + 1) = sC (eC S i).1 i
              unfold sC
              rw [if_pos hT, cw_setC _ _ _ (by decide)] <;> rfl
            refine g_iinc (pc := 150) (v := nI (i + 1)) F dL_ticks_150 rfl (nI_1 i) (by decide) rfl ?_
            refine g_goto (pc := 153) (tgt := 6) F dL_ticks_153 (by decide) ?_
            refine G.sub [some (.ref (ad g 224)), some (.ref (ad g 225)), some (.ref (ad g 226)), some (.ref (ad g 227)), some (.int (eC S (i + 1)).2), some (.int (nI (i + 1))), none] ⟨rfl, rfl, rfl, rfl, ?_, rfl, trivial⟩ (ih (i + 1) (by omega))
            show some (Value.int ((eC S i).2 + (1 <<< (nI i &&& 31)))) = some (Value.int (if tC (eC S i).1 i then (eC S i).2 ||| (1 <<< (nI i &&& 31)) else (eC S i).2))
            rw [if_pos hT, z6, bit_add i (by omega) z1 (Nat.lt_of_lt_of_le z2 (Nat.le_trans (Nat.pow_le_pow_right (by decide) (show i ≤ 6 by omega)) (by decide))) z2]
          · refine g_iload (pc := 128) F dL_ticks_128 rfl ?_
            refine g_goto (pc := 130) (tgt := 142) F dL_ticks_130 (by decide) ?_
            refine g_vstS (pc := 142) (i := i) (j := 3) F (ix7 i 3) (by omega) (by decide) dL_ticks_142 ?_
            refine G.sv (S' := setC (eC S i).1 i (tw (ow (cw (eC S i).1 i)))) (setC_congr _ _ (fun q hq => ?_)) ?_
            · show upd _ 11 (cw (eC S i).1 i 6) q = upd _ 11 (if cw (eC S i).1 i 6 < cw (eC S i).1 i 11 then cw (eC S i).1 i 11 else cw (eC S i).1 i 6) q
              have c5 : ¬ cw (eC S i).1 i 6 ≤ cw (eC S i).1 i 11 := c125
              rw [if_neg (fun e => c5 (Int32.le_of_lt e))] <;> rfl
            refine g_aload_n (pc := 143) F dL_ticks_143 rfl ?_
            refine g_aload_n (pc := 144) F dL_ticks_144 rfl ?_
            refine g_iload (pc := 145) F dL_ticks_145 rfl ?_
            refine g_callS (pc := 147) (rf2 := 1) (rl2 := 23) F cs_L_19 (by rfl) (by rfl) (Nat.le_of_ble_eq_true (by rfl)) (by decide) dL_ticks_147 (c_L_begins _ g M (setC (eC S i).1 i (tw (ow (cw (eC S i).1 i)))) i (by omega) la a b c d hL3 x hx (by rw [setC_lo _ _ _ (by decide)]; exact hx3) p h53 hp) (fun v M2 hz => ?_)
            obtain ⟨rfl, rfl⟩ := hz
            refine G.sv (S' := (eC S (i + 1)).1) ?_ ?_
            · show beg (setC (eC S i).1 i (tw (ow (cw (eC S i).1 i)))) i (cw (setC (eC S i).1 i (tw (ow (cw (eC S i).1 i)))) i 5 + 1) = sC (eC S i).1 i
              unfold sC
              rw [if_pos hT, cw_setC _ _ _ (by decide)] <;> rfl
            refine g_iinc (pc := 150) (v := nI (i + 1)) F dL_ticks_150 rfl (nI_1 i) (by decide) rfl ?_
            refine g_goto (pc := 153) (tgt := 6) F dL_ticks_153 (by decide) ?_
            refine G.sub [some (.ref (ad g 224)), some (.ref (ad g 225)), some (.ref (ad g 226)), some (.ref (ad g 227)), some (.int (eC S (i + 1)).2), some (.int (nI (i + 1))), none] ⟨rfl, rfl, rfl, rfl, ?_, rfl, trivial⟩ (ih (i + 1) (by omega))
            show some (Value.int ((eC S i).2 + (1 <<< (nI i &&& 31)))) = some (Value.int (if tC (eC S i).1 i then (eC S i).2 ||| (1 <<< (nI i &&& 31)) else (eC S i).2))
            rw [if_pos hT, z6, bit_add i (by omega) z1 (Nat.lt_of_lt_of_le z2 (Nat.le_trans (Nat.pow_le_pow_right (by decide) (show i ≤ 6 by omega)) (by decide))) z2]
  exact T1 (cn S) 0 (by omega)
end
