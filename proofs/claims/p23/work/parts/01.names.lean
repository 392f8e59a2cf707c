-- ===== PART A: goes FIRST, ahead of the names: the tables' words, and 'selects' of the private methods out of them =====
/-- a private method of a class that the tables say can be made, by its rows of tables_1 -/
def lw_okq (q : MethodName × Nat) : Prop := (q.1.cls ≠ "java/lang/invoke/MethodHandle" ∧ q.1.cls ≠ "java/lang/invoke/VarHandle") ∧ Cond.instantiable q.1.cls q.2 ∈ tables_1 ∧ Cond.privateMethod q.1 ∈ tables_1 ∧ Cond.instanceMethod q.1 ∈ tables_1
theorem lw_p0 : lw_okq (⟨"RenewalClocks$Clock", "fillRound", "()V"⟩, 10) := ⟨⟨by decide +kernel, by decide +kernel⟩, List.mem_of_getElem? (i := 30) (by decide +kernel), List.mem_of_getElem? (i := 317) (by decide +kernel), List.mem_of_getElem? (i := 318) (by decide +kernel)⟩
theorem lw_p1 : lw_okq (⟨"RenewalClocks$Hall", "beginGap", "(LRenewalClocks$Clock;)V"⟩, 6) := ⟨⟨by decide +kernel, by decide +kernel⟩, List.mem_of_getElem? (i := 21) (by decide +kernel), List.mem_of_getElem? (i := 325) (by decide +kernel), List.mem_of_getElem? (i := 326) (by decide +kernel)⟩
theorem lw_p2 : lw_okq (⟨"RenewalClocks$Hall", "draw", "(I)I"⟩, 6) := ⟨⟨by decide +kernel, by decide +kernel⟩, List.mem_of_getElem? (i := 21) (by decide +kernel), List.mem_of_getElem? (i := 329) (by decide +kernel), List.mem_of_getElem? (i := 330) (by decide +kernel)⟩
theorem lw_p3 : lw_okq (⟨"RenewalClocks", "settle", "(I)I"⟩, 5) := ⟨⟨by decide +kernel, by decide +kernel⟩, List.mem_of_getElem? (i := 13) (by decide +kernel), List.mem_of_getElem? (i := 341) (by decide +kernel), List.mem_of_getElem? (i := 342) (by decide +kernel)⟩
theorem lw_p4 : lw_okq (⟨"RenewalClocks$Hall", "clocksAhead", "(II)I"⟩, 6) := ⟨⟨by decide +kernel, by decide +kernel⟩, List.mem_of_getElem? (i := 21) (by decide +kernel), List.mem_of_getElem? (i := 497) (by decide +kernel), List.mem_of_getElem? (i := 498) (by decide +kernel)⟩
def lw_privs_1 : List (MethodName × Nat) := [(⟨"RenewalClocks$Clock", "fillRound", "()V"⟩, 10), (⟨"RenewalClocks$Hall", "beginGap", "(LRenewalClocks$Clock;)V"⟩, 6), (⟨"RenewalClocks$Hall", "draw", "(I)I"⟩, 6), (⟨"RenewalClocks", "settle", "(I)I"⟩, 5), (⟨"RenewalClocks$Hall", "clocksAhead", "(II)I"⟩, 6)]
theorem lw_r1 : ∀ q ∈ lw_privs_1, lw_okq q := List.forall_mem_cons.mpr ⟨lw_p0, List.forall_mem_cons.mpr ⟨lw_p1, List.forall_mem_cons.mpr ⟨lw_p2, List.forall_mem_cons.mpr ⟨lw_p3, List.forall_mem_cons.mpr ⟨lw_p4, fun _ h => absurd h List.not_mem_nil⟩⟩⟩⟩⟩
def lw_privs : List (MethodName × Nat) := lw_privs_1
def lw_tbl : List Cond := k2_sels lw_privs ++ tables_1
theorem lw_privs_ok : ∀ q ∈ lw_privs, lw_okq q := lw_r1
def RX0 : String := "RenewalClocks$Clock"
def TX0 : u_T := fun k => match k with
  | 0 => ("RenewalClocks$Clock", "law", "I", false)
  | 1 => ("RenewalClocks$Clock", "numbers", "[I", true)
  | 2 => ("RenewalClocks$Clock", "place", "I", false)
  | 3 => ("RenewalClocks$Clock", "gap", "I", false)
  | 4 => ("RenewalClocks$Clock", "rest", "I", false)
  | 5 => ("RenewalClocks$Clock", "passengers", "I", false)
  | 6 => ("RenewalClocks$Clock", "waited", "I", false)
  | 7 => ("RenewalClocks$Clock", "wound", "I", false)
  | 8 => ("RenewalClocks$Clock", "told", "LRenewalClocks$Gaps;", true)
  | _ => ("RenewalClocks$Clock", "round", "LRenewalClocks$Gaps;", true)
def tyX0 : Nat → FieldType := fun k => match k with
  | 0 => .int
  | 1 => .array .int
  | 2 => .int
  | 3 => .int
  | 4 => .int
  | 5 => .int
  | 6 => .int
  | 7 => .int
  | 8 => .object "RenewalClocks$Gaps"
  | _ => .object "RenewalClocks$Gaps"
theorem nmX0 : ∀ a, a < 10 → ∀ b, b < 10 → a ≠ b → (TX0 a).2.1 ≠ (TX0 b).2.1 := by decide +kernel
theorem tyX0_ok : ∀ k, k < 10 → parseFieldDescriptor (TX0 k).2.2.1 = some (tyX0 k) := by decide +kernel
abbrev cX0_init : ByteArray := prog_2_method_1_code
def yX0_init : MethodName := ⟨RX0, "<init>", "()V"⟩
abbrev cX0_set : ByteArray := prog_2_method_2_code
def yX0_set : MethodName := ⟨RX0, "set", "(IIIII)V"⟩
abbrev cX0_fillRound : ByteArray := prog_2_method_3_code
def yX0_fillRound : MethodName := ⟨RX0, "fillRound", "()V"⟩
abbrev cX0_copyFrom : ByteArray := prog_2_method_4_code
def yX0_copyFrom : MethodName := ⟨RX0, "copyFrom", "(LRenewalClocks$Clock;)V"⟩
abbrev cX0_age : ByteArray := prog_2_method_5_code
def yX0_age : MethodName := ⟨RX0, "age", "()I"⟩
abbrev cX0_placeInTurn : ByteArray := prog_2_method_6_code
def yX0_placeInTurn : MethodName := ⟨RX0, "placeInTurn", "()I"⟩
abbrev cX0_beginAt : ByteArray := prog_2_method_7_code
def yX0_beginAt : MethodName := ⟨RX0, "beginAt", "(I)V"⟩
abbrev cX0_passTick : ByteArray := prog_2_method_8_code
def yX0_passTick : MethodName := ⟨RX0, "passTick", "()Z"⟩
abbrev cX0_tell : ByteArray := prog_2_method_9_code
def yX0_tell : MethodName := ⟨RX0, "tell", "(I)I"⟩
def RX1 : String := "RenewalClocks$Gaps"
def TX1 : u_T := fun k => match k with
  | 0 => ("RenewalClocks$Gaps", "many", "I", false)
  | 1 => ("RenewalClocks$Gaps", "sum", "I", false)
  | 2 => ("RenewalClocks$Gaps", "squares", "I", false)
  | 3 => ("RenewalClocks$Gaps", "waits", "I", false)
  | _ => ("RenewalClocks$Gaps", "longest", "I", false)
def tyX1 : Nat → FieldType := fun k => match k with
  | 0 => .int
  | 1 => .int
  | 2 => .int
  | 3 => .int
  | _ => .int
theorem nmX1 : ∀ a, a < 5 → ∀ b, b < 5 → a ≠ b → (TX1 a).2.1 ≠ (TX1 b).2.1 := by decide +kernel
theorem tyX1_ok : ∀ k, k < 5 → parseFieldDescriptor (TX1 k).2.2.1 = some (tyX1 k) := by decide +kernel
abbrev cX1_init : ByteArray := prog_3_method_1_code
def yX1_init : MethodName := ⟨RX1, "<init>", "()V"⟩
abbrev cX1_empty : ByteArray := prog_3_method_2_code
def yX1_empty : MethodName := ⟨RX1, "empty", "()V"⟩
abbrev cX1_add : ByteArray := prog_3_method_3_code
def yX1_add : MethodName := ⟨RX1, "add", "(II)V"⟩
abbrev cX1_copyFrom : ByteArray := prog_3_method_4_code
def yX1_copyFrom : MethodName := ⟨RX1, "copyFrom", "(LRenewalClocks$Gaps;)V"⟩
def RX2 : String := "RenewalClocks$Group"
def TX2 : u_T := fun k => match k with
  | 0 => ("RenewalClocks$Group", "law", "I", false)
  | 1 => ("RenewalClocks$Group", "members", "I", false)
  | 2 => ("RenewalClocks$Group", "told", "I", false)
  | _ => ("RenewalClocks$Group", "met", "I", false)
def tyX2 : Nat → FieldType := fun k => match k with
  | 0 => .int
  | 1 => .int
  | 2 => .int
  | _ => .int
theorem nmX2 : ∀ a, a < 4 → ∀ b, b < 4 → a ≠ b → (TX2 a).2.1 ≠ (TX2 b).2.1 := by decide +kernel
theorem tyX2_ok : ∀ k, k < 4 → parseFieldDescriptor (TX2 k).2.2.1 = some (tyX2 k) := by decide +kernel
abbrev cX2_init : ByteArray := prog_4_method_1_code
def yX2_init : MethodName := ⟨RX2, "<init>", "()V"⟩
abbrev cX2_set : ByteArray := prog_4_method_2_code
def yX2_set : MethodName := ⟨RX2, "set", "(I)V"⟩
abbrev cX2_copyFrom : ByteArray := prog_4_method_3_code
def yX2_copyFrom : MethodName := ⟨RX2, "copyFrom", "(LRenewalClocks$Group;)V"⟩
abbrev cX2_has : ByteArray := prog_4_method_4_code
def yX2_has : MethodName := ⟨RX2, "has", "(I)Z"⟩
abbrev cX2_size : ByteArray := prog_4_method_5_code
def yX2_size : MethodName := ⟨RX2, "size", "()I"⟩
abbrev cX2_passTick : ByteArray := prog_4_method_6_code
def yX2_passTick : MethodName := ⟨RX2, "passTick", "(I)V"⟩
def RX3 : String := "RenewalClocks$Hall"
def TX3 : u_T := fun k => match k with
  | 0 => ("RenewalClocks$Hall", "clocks", "[LRenewalClocks$Clock;", true)
  | 1 => ("RenewalClocks$Hall", "clockCount", "I", false)
  | 2 => ("RenewalClocks$Hall", "groups", "[LRenewalClocks$Group;", true)
  | 3 => ("RenewalClocks$Hall", "groupCount", "I", false)
  | 4 => ("RenewalClocks$Hall", "now", "I", false)
  | _ => ("RenewalClocks$Hall", "drawn", "I", false)
def tyX3 : Nat → FieldType := fun k => match k with
  | 0 => .array (.object "RenewalClocks$Clock")
  | 1 => .int
  | 2 => .array (.object "RenewalClocks$Group")
  | 3 => .int
  | 4 => .int
  | _ => .int
theorem nmX3 : ∀ a, a < 6 → ∀ b, b < 6 → a ≠ b → (TX3 a).2.1 ≠ (TX3 b).2.1 := by decide +kernel
theorem tyX3_ok : ∀ k, k < 6 → parseFieldDescriptor (TX3 k).2.2.1 = some (tyX3 k) := by decide +kernel
abbrev cX3_init : ByteArray := prog_5_method_1_code
def yX3_init : MethodName := ⟨RX3, "<init>", "()V"⟩
abbrev cX3_copyFrom : ByteArray := prog_5_method_2_code
def yX3_copyFrom : MethodName := ⟨RX3, "copyFrom", "(LRenewalClocks$Hall;)V"⟩
abbrev cX3_clockAt : ByteArray := prog_5_method_3_code
def yX3_clockAt : MethodName := ⟨RX3, "clockAt", "(I)LRenewalClocks$Clock;"⟩
abbrev cX3_groupAt : ByteArray := prog_5_method_4_code
def yX3_groupAt : MethodName := ⟨RX3, "groupAt", "(I)LRenewalClocks$Group;"⟩
abbrev cX3_addClock : ByteArray := prog_5_method_5_code
def yX3_addClock : MethodName := ⟨RX3, "addClock", "(IIIII)I"⟩
abbrev cX3_windClock : ByteArray := prog_5_method_6_code
def yX3_windClock : MethodName := ⟨RX3, "windClock", "(I)I"⟩
abbrev cX3_beginGap : ByteArray := prog_5_method_7_code
def yX3_beginGap : MethodName := ⟨RX3, "beginGap", "(LRenewalClocks$Clock;)V"⟩
abbrev cX3_draw : ByteArray := prog_5_method_8_code
def yX3_draw : MethodName := ⟨RX3, "draw", "(I)I"⟩
abbrev cX3_endTicks : ByteArray := prog_5_method_9_code
def yX3_endTicks : MethodName := ⟨RX3, "endTicks", "(I)I"⟩
abbrev cX3_endTick : ByteArray := prog_5_method_10_code
def yX3_endTick : MethodName := ⟨RX3, "endTick", "()I"⟩
abbrev cX3_addPassenger : ByteArray := prog_5_method_11_code
def yX3_addPassenger : MethodName := ⟨RX3, "addPassenger", "(I)I"⟩
abbrev cX3_addGroup : ByteArray := prog_5_method_12_code
def yX3_addGroup : MethodName := ⟨RX3, "addGroup", "(I)I"⟩
abbrev cX3_joinGroup : ByteArray := prog_5_method_13_code
def yX3_joinGroup : MethodName := ⟨RX3, "joinGroup", "(II)I"⟩
abbrev cX3_leaveGroup : ByteArray := prog_5_method_14_code
def yX3_leaveGroup : MethodName := ⟨RX3, "leaveGroup", "(II)I"⟩
abbrev cX3_leastRest : ByteArray := prog_5_method_15_code
def yX3_leastRest : MethodName := ⟨RX3, "leastRest", "(I)I"⟩
abbrev cX3_sumOver : ByteArray := prog_5_method_16_code
def yX3_sumOver : MethodName := ⟨RX3, "sumOver", "(II)I"⟩
abbrev cX3_clockInPlace : ByteArray := prog_5_method_17_code
def yX3_clockInPlace : MethodName := ⟨RX3, "clockInPlace", "(I)I"⟩
abbrev cX3_clocksAhead : ByteArray := prog_5_method_18_code
def yX3_clocksAhead : MethodName := ⟨RX3, "clocksAhead", "(II)I"⟩
abbrev cX3_aboutToTell : ByteArray := prog_5_method_20_code
def yX3_aboutToTell : MethodName := ⟨RX3, "aboutToTell", "()I"⟩
abbrev cX3_greatestAge : ByteArray := prog_5_method_21_code
def yX3_greatestAge : MethodName := ⟨RX3, "greatestAge", "()I"⟩
def RX4 : String := "RenewalClocks$History"
def TX4 : u_T := fun k => match k with
  | 0 => ("RenewalClocks$History", "slots", "[LRenewalClocks$Hall;", true)
  | _ => ("RenewalClocks$History", "kept", "I", false)
def tyX4 : Nat → FieldType := fun k => match k with
  | 0 => .array (.object "RenewalClocks$Hall")
  | _ => .int
theorem nmX4 : ∀ a, a < 2 → ∀ b, b < 2 → a ≠ b → (TX4 a).2.1 ≠ (TX4 b).2.1 := by decide +kernel
theorem tyX4_ok : ∀ k, k < 2 → parseFieldDescriptor (TX4 k).2.2.1 = some (tyX4 k) := by decide +kernel
abbrev cX4_init : ByteArray := prog_6_method_1_code
def yX4_init : MethodName := ⟨RX4, "<init>", "()V"⟩
abbrev cX4_note : ByteArray := prog_6_method_2_code
def yX4_note : MethodName := ⟨RX4, "note", "(LRenewalClocks$Hall;)V"⟩
abbrev cX4_keep : ByteArray := prog_6_method_3_code
def yX4_keep : MethodName := ⟨RX4, "keep", "()V"⟩
def RX5 : String := "RenewalClocks$Orders"
def TX5 : u_T := fun k => match k with
  | 0 => ("RenewalClocks$Orders", "text", "LRenewalClocks$Text;", true)
  | 1 => ("RenewalClocks$Orders", "numbers", "[I", true)
  | 2 => ("RenewalClocks$Orders", "start", "I", false)
  | 3 => ("RenewalClocks$Orders", "at", "I", false)
  | 4 => ("RenewalClocks$Orders", "many", "I", false)
  | 5 => ("RenewalClocks$Orders", "reason", "I", false)
  | _ => ("RenewalClocks$Orders", "cause", "I", false)
def tyX5 : Nat → FieldType := fun k => match k with
  | 0 => .object "RenewalClocks$Text"
  | 1 => .array .int
  | 2 => .int
  | 3 => .int
  | 4 => .int
  | 5 => .int
  | _ => .int
theorem nmX5 : ∀ a, a < 7 → ∀ b, b < 7 → a ≠ b → (TX5 a).2.1 ≠ (TX5 b).2.1 := by decide +kernel
theorem tyX5_ok : ∀ k, k < 7 → parseFieldDescriptor (TX5 k).2.2.1 = some (tyX5 k) := by decide +kernel
abbrev cX5_init : ByteArray := prog_7_method_1_code
def yX5_init : MethodName := ⟨RX5, "<init>", "(LRenewalClocks$Text;)V"⟩
def RX6 : String := "RenewalClocks$Text"
def TX6 : u_T := fun k => match k with
  | 0 => ("RenewalClocks$Text", "signs", "[C", true)
  | _ => ("RenewalClocks$Text", "length", "I", false)
def tyX6 : Nat → FieldType := fun k => match k with
  | 0 => .array .char
  | _ => .int
theorem nmX6 : ∀ a, a < 2 → ∀ b, b < 2 → a ≠ b → (TX6 a).2.1 ≠ (TX6 b).2.1 := by decide +kernel
theorem tyX6_ok : ∀ k, k < 2 → parseFieldDescriptor (TX6 k).2.2.1 = some (tyX6 k) := by decide +kernel
abbrev cX6_init : ByteArray := prog_8_method_1_code
def yX6_init : MethodName := ⟨RX6, "<init>", "()V"⟩
def RX7 : String := "RenewalClocks"
def TX7 : u_T := fun k => match k with
  | 0 => ("RenewalClocks", "hall", "LRenewalClocks$Hall;", true)
  | 1 => ("RenewalClocks", "trial", "LRenewalClocks$Hall;", true)
  | 2 => ("RenewalClocks", "history", "LRenewalClocks$History;", true)
  | 3 => ("RenewalClocks", "text", "LRenewalClocks$Text;", true)
  | _ => ("RenewalClocks", "orders", "LRenewalClocks$Orders;", true)
def tyX7 : Nat → FieldType := fun k => match k with
  | 0 => .object "RenewalClocks$Hall"
  | 1 => .object "RenewalClocks$Hall"
  | 2 => .object "RenewalClocks$History"
  | 3 => .object "RenewalClocks$Text"
  | _ => .object "RenewalClocks$Orders"
theorem nmX7 : ∀ a, a < 5 → ∀ b, b < 5 → a ≠ b → (TX7 a).2.1 ≠ (TX7 b).2.1 := by decide +kernel
theorem tyX7_ok : ∀ k, k < 5 → parseFieldDescriptor (TX7 k).2.2.1 = some (tyX7 k) := by decide +kernel
abbrev cX7_init : ByteArray := prog_1_method_1_code
def yX7_init : MethodName := ⟨RX7, "<init>", "()V"⟩
abbrev cX7_clock : ByteArray := prog_1_method_2_code
def yX7_clock : MethodName := ⟨RX7, "clock", "(IIIII)I"⟩
abbrev cX7_wind : ByteArray := prog_1_method_3_code
def yX7_wind : MethodName := ⟨RX7, "wind", "(I)I"⟩
abbrev cX7_tick : ByteArray := prog_1_method_4_code
def yX7_tick : MethodName := ⟨RX7, "tick", "(I)I"⟩
abbrev cX7_passenger : ByteArray := prog_1_method_5_code
def yX7_passenger : MethodName := ⟨RX7, "passenger", "(I)I"⟩
abbrev cX7_group : ByteArray := prog_1_method_6_code
def yX7_group : MethodName := ⟨RX7, "group", "(I)I"⟩
abbrev cX7_join : ByteArray := prog_1_method_7_code
def yX7_join : MethodName := ⟨RX7, "join", "(II)I"⟩
abbrev cX7_leave : ByteArray := prog_1_method_8_code
def yX7_leave : MethodName := ⟨RX7, "leave", "(II)I"⟩
abbrev cX7_clockOf : ByteArray := prog_1_method_9_code
def yX7_clockOf : MethodName := ⟨RX7, "clockOf", "(II)I"⟩
abbrev cX7_groupOf : ByteArray := prog_1_method_11_code
def yX7_groupOf : MethodName := ⟨RX7, "groupOf", "(II)I"⟩
abbrev cX7_next : ByteArray := prog_1_method_12_code
def yX7_next : MethodName := ⟨RX7, "next", "(I)I"⟩
abbrev cX7_count : ByteArray := prog_1_method_16_code
def yX7_count : MethodName := ⟨RX7, "count", "(I)I"⟩
abbrev cX7_settle : ByteArray := prog_1_method_22_code
def yX7_settle : MethodName := ⟨RX7, "settle", "(I)I"⟩
abbrev cX7_isLaw : ByteArray := prog_1_method_24_code
def yX7_isLaw : MethodName := ⟨RX7, "isLaw", "(I)Z"⟩
abbrev cX7_isGap : ByteArray := prog_1_method_25_code
def yX7_isGap : MethodName := ⟨RX7, "isGap", "(I)Z"⟩
abbrev cX7_isClock : ByteArray := prog_1_method_26_code
def yX7_isClock : MethodName := ⟨RX7, "isClock", "(IIIII)Z"⟩
abbrev cX7_mayFollow : ByteArray := prog_1_method_27_code
def yX7_mayFollow : MethodName := ⟨RX7, "mayFollow", "(II)Z"⟩
def RX8 : String := "RenewalClocksModel"
def TX8 : u_T := fun k => match k with
  | _ => ("", "", "", false)
def tyX8 : Nat → FieldType := fun k => match k with
  | _ => .int
theorem nmX8 : ∀ a, a < 0 → ∀ b, b < 0 → a ≠ b → (TX8 a).2.1 ≠ (TX8 b).2.1 := by decide +kernel
theorem tyX8_ok : ∀ k, k < 0 → parseFieldDescriptor (TX8 k).2.2.1 = some (tyX8 k) := by decide +kernel
def RJ6 : String := "java/lang/Integer"
def TJ6 : u_T := fun k => match k with
  | _ => ("", "", "", false)
def tyJ6 : Nat → FieldType := fun k => match k with
  | _ => .int
theorem nmJ6 : ∀ a, a < 0 → ∀ b, b < 0 → a ≠ b → (TJ6 a).2.1 ≠ (TJ6 b).2.1 := by decide +kernel
theorem tyJ6_ok : ∀ k, k < 0 → parseFieldDescriptor (TJ6 k).2.2.1 = some (tyJ6 k) := by decide +kernel
abbrev cJ6_bitCount_0f7a4 : ByteArray := prog_11_method_49_code
def yJ6_bitCount_0f7a4 : MethodName := ⟨RJ6, "bitCount", "(I)I"⟩
def RJ9 : String := "java/lang/Math"
def TJ9 : u_T := fun k => match k with
  | _ => ("", "", "", false)
def tyJ9 : Nat → FieldType := fun k => match k with
  | _ => .int
theorem nmJ9 : ∀ a, a < 0 → ∀ b, b < 0 → a ≠ b → (TJ9 a).2.1 ≠ (TJ9 b).2.1 := by decide +kernel
theorem tyJ9_ok : ∀ k, k < 0 → parseFieldDescriptor (TJ9 k).2.2.1 = some (tyJ9 k) := by decide +kernel
abbrev cJ9_max_7cf53 : ByteArray := prog_12_method_65_code
def yJ9_max_7cf53 : MethodName := ⟨RJ9, "max", "(II)I"⟩
def RJ10 : String := "java/lang/System"
def TJ10 : u_T := fun k => match k with
  | _ => ("", "", "", false)
def tyJ10 : Nat → FieldType := fun k => match k with
  | _ => .int
theorem nmJ10 : ∀ a, a < 0 → ∀ b, b < 0 → a ≠ b → (TJ10 a).2.1 ≠ (TJ10 b).2.1 := by decide +kernel
theorem tyJ10_ok : ∀ k, k < 0 → parseFieldDescriptor (TJ10 k).2.2.1 = some (tyJ10 k) := by decide +kernel
def RL : String := "RenewalClocksLaw"
abbrev cL_cell : ByteArray := method_2_code
def yL_cell : MethodName := ⟨RL, "cell", "([II)I"⟩
abbrev cL_low : ByteArray := method_3_code
def yL_low : MethodName := ⟨RL, "low", "(II)I"⟩
abbrev cL_many : ByteArray := method_4_code
def yL_many : MethodName := ⟨RL, "many", "([II)I"⟩
abbrev cL_gap : ByteArray := method_5_code
def yL_gap : MethodName := ⟨RL, "gap", "([III)I"⟩
abbrev cL_begins : ByteArray := method_6_code
def yL_begins : MethodName := ⟨RL, "begins", "([I[II)V"⟩
abbrev cL_bitsOf : ByteArray := method_7_code
def yL_bitsOf : MethodName := ⟨RL, "bitsOf", "(I)I"⟩
abbrev cL_ticks : ByteArray := method_8_code
def yL_ticks : MethodName := ⟨RL, "ticks", "([I[I[I[I)I"⟩
abbrev cL_rest : ByteArray := method_9_code
def yL_rest : MethodName := ⟨RL, "rest", "([II)I"⟩
abbrev cL_comes : ByteArray := method_10_code
def yL_comes : MethodName := ⟨RL, "comes", "(LRenewalClocks;[I[I[II)Z"⟩
abbrev cL_joins : ByteArray := method_11_code
def yL_joins : MethodName := ⟨RL, "joins", "(LRenewalClocks;[I[I[III)Z"⟩
abbrev cL_acts : ByteArray := method_12_code
def yL_acts : MethodName := ⟨RL, "acts", "(LRenewalClocks;[I[I[I[II)Z"⟩
abbrev cL_areClocks : ByteArray := method_13_code
def yL_areClocks : MethodName := ⟨RL, "areClocks", "(LRenewalClocks;[I[I[I)Z"⟩
abbrev cL_areGroups : ByteArray := method_14_code
def yL_areGroups : MethodName := ⟨RL, "areGroups", "(LRenewalClocks;[I[I[I[I)Z"⟩
abbrev cL_isSo : ByteArray := method_15_code
def yL_isSo : MethodName := ⟨RL, "isSo", "(LRenewalClocks;[I[I[I[I)Z"⟩
abbrev cL_law : ByteArray := code
def yL_law : MethodName := ⟨RL, "law", "([I)Z"⟩
theorem dX0_init_0 : decode cX0_init 0 = .ok (.aload_n 0, 1) := by decide +kernel
theorem dX0_init_1 : decode cX0_init 1 = .ok (.invokespecial 3, 3) := by decide +kernel
theorem dX0_init_4 : decode cX0_init 4 = .ok (.aload_n 0, 1) := by decide +kernel
theorem dX0_init_5 : decode cX0_init 5 = .ok (.iconst 4, 1) := by decide +kernel
theorem dX0_init_6 : decode cX0_init 6 = .ok (.newarray .int, 2) := by decide +kernel
theorem dX0_init_8 : decode cX0_init 8 = .ok (.putfield 9, 3) := by decide +kernel
theorem dX0_init_11 : decode cX0_init 11 = .ok (.aload_n 0, 1) := by decide +kernel
theorem dX0_init_12 : decode cX0_init 12 = .ok (.new 15, 3) := by decide +kernel
theorem dX0_init_15 : decode cX0_init 15 = .ok (.dup, 1) := by decide +kernel
theorem dX0_init_16 : decode cX0_init 16 = .ok (.invokespecial 17, 3) := by decide +kernel
theorem dX0_init_19 : decode cX0_init 19 = .ok (.putfield 18, 3) := by decide +kernel
theorem dX0_init_22 : decode cX0_init 22 = .ok (.aload_n 0, 1) := by decide +kernel
theorem dX0_init_23 : decode cX0_init 23 = .ok (.new 15, 3) := by decide +kernel
theorem dX0_init_26 : decode cX0_init 26 = .ok (.dup, 1) := by decide +kernel
theorem dX0_init_27 : decode cX0_init 27 = .ok (.invokespecial 17, 3) := by decide +kernel
theorem dX0_init_30 : decode cX0_init 30 = .ok (.putfield 22, 3) := by decide +kernel
theorem dX0_init_33 : decode cX0_init 33 = .ok (.return_, 1) := by decide +kernel
theorem dX0_set_0 : decode cX0_set 0 = .ok (.aload_n 0, 1) := by decide +kernel
theorem dX0_set_1 : decode cX0_set 1 = .ok (.iload_n 1, 1) := by decide +kernel
theorem dX0_set_2 : decode cX0_set 2 = .ok (.putfield 25, 3) := by decide +kernel
theorem dX0_set_5 : decode cX0_set 5 = .ok (.aload_n 0, 1) := by decide +kernel
theorem dX0_set_6 : decode cX0_set 6 = .ok (.getfield 9, 3) := by decide +kernel
theorem dX0_set_9 : decode cX0_set 9 = .ok (.iconst 0, 1) := by decide +kernel
theorem dX0_set_10 : decode cX0_set 10 = .ok (.iload_n 2, 1) := by decide +kernel
theorem dX0_set_11 : decode cX0_set 11 = .ok (.iastore, 1) := by decide +kernel
theorem dX0_set_12 : decode cX0_set 12 = .ok (.aload_n 0, 1) := by decide +kernel
theorem dX0_set_13 : decode cX0_set 13 = .ok (.getfield 9, 3) := by decide +kernel
theorem dX0_set_16 : decode cX0_set 16 = .ok (.iconst 1, 1) := by decide +kernel
theorem dX0_set_17 : decode cX0_set 17 = .ok (.iload_n 3, 1) := by decide +kernel
theorem dX0_set_18 : decode cX0_set 18 = .ok (.iastore, 1) := by decide +kernel
theorem dX0_set_19 : decode cX0_set 19 = .ok (.aload_n 0, 1) := by decide +kernel
theorem dX0_set_20 : decode cX0_set 20 = .ok (.getfield 9, 3) := by decide +kernel
theorem dX0_set_23 : decode cX0_set 23 = .ok (.iconst 2, 1) := by decide +kernel
theorem dX0_set_24 : decode cX0_set 24 = .ok (.iload 4, 2) := by decide +kernel
theorem dX0_set_26 : decode cX0_set 26 = .ok (.iastore, 1) := by decide +kernel
theorem dX0_set_27 : decode cX0_set 27 = .ok (.aload_n 0, 1) := by decide +kernel
theorem dX0_set_28 : decode cX0_set 28 = .ok (.getfield 9, 3) := by decide +kernel
theorem dX0_set_31 : decode cX0_set 31 = .ok (.iconst 3, 1) := by decide +kernel
theorem dX0_set_32 : decode cX0_set 32 = .ok (.iload 5, 2) := by decide +kernel
theorem dX0_set_34 : decode cX0_set 34 = .ok (.iastore, 1) := by decide +kernel
theorem dX0_set_35 : decode cX0_set 35 = .ok (.aload_n 0, 1) := by decide +kernel
theorem dX0_set_36 : decode cX0_set 36 = .ok (.iconst (-1), 1) := by decide +kernel
theorem dX0_set_37 : decode cX0_set 37 = .ok (.putfield 29, 3) := by decide +kernel
theorem dX0_set_40 : decode cX0_set 40 = .ok (.aload_n 0, 1) := by decide +kernel
theorem dX0_set_41 : decode cX0_set 41 = .ok (.iconst 0, 1) := by decide +kernel
theorem dX0_set_42 : decode cX0_set 42 = .ok (.putfield 32, 3) := by decide +kernel
theorem dX0_set_45 : decode cX0_set 45 = .ok (.aload_n 0, 1) := by decide +kernel
theorem dX0_set_46 : decode cX0_set 46 = .ok (.iconst 0, 1) := by decide +kernel
theorem dX0_set_47 : decode cX0_set 47 = .ok (.putfield 35, 3) := by decide +kernel
theorem dX0_set_50 : decode cX0_set 50 = .ok (.aload_n 0, 1) := by decide +kernel
theorem dX0_set_51 : decode cX0_set 51 = .ok (.iconst 0, 1) := by decide +kernel
theorem dX0_set_52 : decode cX0_set 52 = .ok (.putfield 38, 3) := by decide +kernel
theorem dX0_set_55 : decode cX0_set 55 = .ok (.aload_n 0, 1) := by decide +kernel
theorem dX0_set_56 : decode cX0_set 56 = .ok (.iconst 0, 1) := by decide +kernel
theorem dX0_set_57 : decode cX0_set 57 = .ok (.putfield 41, 3) := by decide +kernel
theorem dX0_set_60 : decode cX0_set 60 = .ok (.aload_n 0, 1) := by decide +kernel
theorem dX0_set_61 : decode cX0_set 61 = .ok (.iconst 0, 1) := by decide +kernel
theorem dX0_set_62 : decode cX0_set 62 = .ok (.putfield 44, 3) := by decide +kernel
theorem dX0_set_65 : decode cX0_set 65 = .ok (.aload_n 0, 1) := by decide +kernel
theorem dX0_set_66 : decode cX0_set 66 = .ok (.getfield 18, 3) := by decide +kernel
theorem dX0_set_69 : decode cX0_set 69 = .ok (.invokevirtual 47, 3) := by decide +kernel
theorem dX0_set_72 : decode cX0_set 72 = .ok (.aload_n 0, 1) := by decide +kernel
theorem dX0_set_73 : decode cX0_set 73 = .ok (.invokevirtual 50, 3) := by decide +kernel
theorem dX0_set_76 : decode cX0_set 76 = .ok (.return_, 1) := by decide +kernel
theorem dX0_fillRound_0 : decode cX0_fillRound 0 = .ok (.aload_n 0, 1) := by decide +kernel
theorem dX0_fillRound_1 : decode cX0_fillRound 1 = .ok (.getfield 22, 3) := by decide +kernel
theorem dX0_fillRound_4 : decode cX0_fillRound 4 = .ok (.invokevirtual 47, 3) := by decide +kernel
theorem dX0_fillRound_7 : decode cX0_fillRound 7 = .ok (.aload_n 0, 1) := by decide +kernel
theorem dX0_fillRound_8 : decode cX0_fillRound 8 = .ok (.getfield 25, 3) := by decide +kernel
theorem dX0_fillRound_11 : decode cX0_fillRound 11 = .ok (.iconst 2, 1) := by decide +kernel
theorem dX0_fillRound_12 : decode cX0_fillRound 12 = .ok (.if_icmp .ne 37, 3) := by decide +kernel
theorem dX0_fillRound_15 : decode cX0_fillRound 15 = .ok (.aload_n 0, 1) := by decide +kernel
theorem dX0_fillRound_16 : decode cX0_fillRound 16 = .ok (.getfield 22, 3) := by decide +kernel
theorem dX0_fillRound_19 : decode cX0_fillRound 19 = .ok (.aload_n 0, 1) := by decide +kernel
theorem dX0_fillRound_20 : decode cX0_fillRound 20 = .ok (.getfield 9, 3) := by decide +kernel
theorem dX0_fillRound_23 : decode cX0_fillRound 23 = .ok (.iconst 0, 1) := by decide +kernel
theorem dX0_fillRound_24 : decode cX0_fillRound 24 = .ok (.iaload, 1) := by decide +kernel
theorem dX0_fillRound_25 : decode cX0_fillRound 25 = .ok (.aload_n 0, 1) := by decide +kernel
theorem dX0_fillRound_26 : decode cX0_fillRound 26 = .ok (.getfield 9, 3) := by decide +kernel
theorem dX0_fillRound_29 : decode cX0_fillRound 29 = .ok (.iconst 1, 1) := by decide +kernel
theorem dX0_fillRound_30 : decode cX0_fillRound 30 = .ok (.iaload, 1) := by decide +kernel
theorem dX0_fillRound_31 : decode cX0_fillRound 31 = .ok (.invokevirtual 53, 3) := by decide +kernel
theorem dX0_fillRound_34 : decode cX0_fillRound 34 = .ok (.aload_n 0, 1) := by decide +kernel
theorem dX0_fillRound_35 : decode cX0_fillRound 35 = .ok (.getfield 22, 3) := by decide +kernel
theorem dX0_fillRound_38 : decode cX0_fillRound 38 = .ok (.aload_n 0, 1) := by decide +kernel
theorem dX0_fillRound_39 : decode cX0_fillRound 39 = .ok (.getfield 9, 3) := by decide +kernel
theorem dX0_fillRound_42 : decode cX0_fillRound 42 = .ok (.iconst 2, 1) := by decide +kernel
theorem dX0_fillRound_43 : decode cX0_fillRound 43 = .ok (.iaload, 1) := by decide +kernel
theorem dX0_fillRound_44 : decode cX0_fillRound 44 = .ok (.iconst 1, 1) := by decide +kernel
theorem dX0_fillRound_45 : decode cX0_fillRound 45 = .ok (.invokevirtual 53, 3) := by decide +kernel
theorem dX0_fillRound_48 : decode cX0_fillRound 48 = .ok (.return_, 1) := by decide +kernel
theorem dX0_fillRound_49 : decode cX0_fillRound 49 = .ok (.iconst 0, 1) := by decide +kernel
theorem dX0_fillRound_50 : decode cX0_fillRound 50 = .ok (.istore_n 1, 1) := by decide +kernel
theorem dX0_fillRound_51 : decode cX0_fillRound 51 = .ok (.iload_n 1, 1) := by decide +kernel
theorem dX0_fillRound_52 : decode cX0_fillRound 52 = .ok (.aload_n 0, 1) := by decide +kernel
theorem dX0_fillRound_53 : decode cX0_fillRound 53 = .ok (.getfield 9, 3) := by decide +kernel
theorem dX0_fillRound_56 : decode cX0_fillRound 56 = .ok (.arraylength, 1) := by decide +kernel
theorem dX0_fillRound_57 : decode cX0_fillRound 57 = .ok (.if_icmp .ge 32, 3) := by decide +kernel
theorem dX0_fillRound_60 : decode cX0_fillRound 60 = .ok (.aload_n 0, 1) := by decide +kernel
theorem dX0_fillRound_61 : decode cX0_fillRound 61 = .ok (.getfield 9, 3) := by decide +kernel
theorem dX0_fillRound_64 : decode cX0_fillRound 64 = .ok (.iload_n 1, 1) := by decide +kernel
theorem dX0_fillRound_65 : decode cX0_fillRound 65 = .ok (.iaload, 1) := by decide +kernel
theorem dX0_fillRound_66 : decode cX0_fillRound 66 = .ok (.ifCond .le 17, 3) := by decide +kernel
theorem dX0_fillRound_69 : decode cX0_fillRound 69 = .ok (.aload_n 0, 1) := by decide +kernel
theorem dX0_fillRound_70 : decode cX0_fillRound 70 = .ok (.getfield 22, 3) := by decide +kernel
theorem dX0_fillRound_73 : decode cX0_fillRound 73 = .ok (.aload_n 0, 1) := by decide +kernel
theorem dX0_fillRound_74 : decode cX0_fillRound 74 = .ok (.getfield 9, 3) := by decide +kernel
theorem dX0_fillRound_77 : decode cX0_fillRound 77 = .ok (.iload_n 1, 1) := by decide +kernel
theorem dX0_fillRound_78 : decode cX0_fillRound 78 = .ok (.iaload, 1) := by decide +kernel
theorem dX0_fillRound_79 : decode cX0_fillRound 79 = .ok (.iconst 1, 1) := by decide +kernel
theorem dX0_fillRound_80 : decode cX0_fillRound 80 = .ok (.invokevirtual 53, 3) := by decide +kernel
theorem dX0_fillRound_83 : decode cX0_fillRound 83 = .ok (.iinc 1 1, 3) := by decide +kernel
theorem dX0_fillRound_86 : decode cX0_fillRound 86 = .ok (.goto (-35), 3) := by decide +kernel
theorem dX0_fillRound_89 : decode cX0_fillRound 89 = .ok (.return_, 1) := by decide +kernel
theorem dX0_copyFrom_0 : decode cX0_copyFrom 0 = .ok (.aload_n 0, 1) := by decide +kernel
theorem dX0_copyFrom_1 : decode cX0_copyFrom 1 = .ok (.aload_n 1, 1) := by decide +kernel
theorem dX0_copyFrom_2 : decode cX0_copyFrom 2 = .ok (.getfield 25, 3) := by decide +kernel
theorem dX0_copyFrom_5 : decode cX0_copyFrom 5 = .ok (.putfield 25, 3) := by decide +kernel
theorem dX0_copyFrom_8 : decode cX0_copyFrom 8 = .ok (.aload_n 1, 1) := by decide +kernel
theorem dX0_copyFrom_9 : decode cX0_copyFrom 9 = .ok (.getfield 9, 3) := by decide +kernel
theorem dX0_copyFrom_12 : decode cX0_copyFrom 12 = .ok (.iconst 0, 1) := by decide +kernel
theorem dX0_copyFrom_13 : decode cX0_copyFrom 13 = .ok (.aload_n 0, 1) := by decide +kernel
theorem dX0_copyFrom_14 : decode cX0_copyFrom 14 = .ok (.getfield 9, 3) := by decide +kernel
theorem dX0_copyFrom_17 : decode cX0_copyFrom 17 = .ok (.iconst 0, 1) := by decide +kernel
theorem dX0_copyFrom_18 : decode cX0_copyFrom 18 = .ok (.iconst 4, 1) := by decide +kernel
theorem dX0_copyFrom_19 : decode cX0_copyFrom 19 = .ok (.invokestatic 57, 3) := by decide +kernel
theorem dX0_copyFrom_22 : decode cX0_copyFrom 22 = .ok (.aload_n 0, 1) := by decide +kernel
theorem dX0_copyFrom_23 : decode cX0_copyFrom 23 = .ok (.aload_n 1, 1) := by decide +kernel
theorem dX0_copyFrom_24 : decode cX0_copyFrom 24 = .ok (.getfield 29, 3) := by decide +kernel
theorem dX0_copyFrom_27 : decode cX0_copyFrom 27 = .ok (.putfield 29, 3) := by decide +kernel
theorem dX0_copyFrom_30 : decode cX0_copyFrom 30 = .ok (.aload_n 0, 1) := by decide +kernel
theorem dX0_copyFrom_31 : decode cX0_copyFrom 31 = .ok (.aload_n 1, 1) := by decide +kernel
theorem dX0_copyFrom_32 : decode cX0_copyFrom 32 = .ok (.getfield 32, 3) := by decide +kernel
theorem dX0_copyFrom_35 : decode cX0_copyFrom 35 = .ok (.putfield 32, 3) := by decide +kernel
theorem dX0_copyFrom_38 : decode cX0_copyFrom 38 = .ok (.aload_n 0, 1) := by decide +kernel
theorem dX0_copyFrom_39 : decode cX0_copyFrom 39 = .ok (.aload_n 1, 1) := by decide +kernel
theorem dX0_copyFrom_40 : decode cX0_copyFrom 40 = .ok (.getfield 35, 3) := by decide +kernel
theorem dX0_copyFrom_43 : decode cX0_copyFrom 43 = .ok (.putfield 35, 3) := by decide +kernel
theorem dX0_copyFrom_46 : decode cX0_copyFrom 46 = .ok (.aload_n 0, 1) := by decide +kernel
theorem dX0_copyFrom_47 : decode cX0_copyFrom 47 = .ok (.aload_n 1, 1) := by decide +kernel
theorem dX0_copyFrom_48 : decode cX0_copyFrom 48 = .ok (.getfield 38, 3) := by decide +kernel
theorem dX0_copyFrom_51 : decode cX0_copyFrom 51 = .ok (.putfield 38, 3) := by decide +kernel
theorem dX0_copyFrom_54 : decode cX0_copyFrom 54 = .ok (.aload_n 0, 1) := by decide +kernel
theorem dX0_copyFrom_55 : decode cX0_copyFrom 55 = .ok (.aload_n 1, 1) := by decide +kernel
theorem dX0_copyFrom_56 : decode cX0_copyFrom 56 = .ok (.getfield 41, 3) := by decide +kernel
theorem dX0_copyFrom_59 : decode cX0_copyFrom 59 = .ok (.putfield 41, 3) := by decide +kernel
theorem dX0_copyFrom_62 : decode cX0_copyFrom 62 = .ok (.aload_n 0, 1) := by decide +kernel
theorem dX0_copyFrom_63 : decode cX0_copyFrom 63 = .ok (.aload_n 1, 1) := by decide +kernel
theorem dX0_copyFrom_64 : decode cX0_copyFrom 64 = .ok (.getfield 44, 3) := by decide +kernel
theorem dX0_copyFrom_67 : decode cX0_copyFrom 67 = .ok (.putfield 44, 3) := by decide +kernel
theorem dX0_copyFrom_70 : decode cX0_copyFrom 70 = .ok (.aload_n 0, 1) := by decide +kernel
theorem dX0_copyFrom_71 : decode cX0_copyFrom 71 = .ok (.getfield 18, 3) := by decide +kernel
theorem dX0_copyFrom_74 : decode cX0_copyFrom 74 = .ok (.aload_n 1, 1) := by decide +kernel
theorem dX0_copyFrom_75 : decode cX0_copyFrom 75 = .ok (.getfield 18, 3) := by decide +kernel
theorem dX0_copyFrom_78 : decode cX0_copyFrom 78 = .ok (.invokevirtual 63, 3) := by decide +kernel
theorem dX0_copyFrom_81 : decode cX0_copyFrom 81 = .ok (.aload_n 0, 1) := by decide +kernel
theorem dX0_copyFrom_82 : decode cX0_copyFrom 82 = .ok (.getfield 22, 3) := by decide +kernel
theorem dX0_copyFrom_85 : decode cX0_copyFrom 85 = .ok (.aload_n 1, 1) := by decide +kernel
theorem dX0_copyFrom_86 : decode cX0_copyFrom 86 = .ok (.getfield 22, 3) := by decide +kernel
theorem dX0_copyFrom_89 : decode cX0_copyFrom 89 = .ok (.invokevirtual 63, 3) := by decide +kernel
theorem dX0_copyFrom_92 : decode cX0_copyFrom 92 = .ok (.return_, 1) := by decide +kernel
theorem dX0_age_0 : decode cX0_age 0 = .ok (.aload_n 0, 1) := by decide +kernel
theorem dX0_age_1 : decode cX0_age 1 = .ok (.getfield 32, 3) := by decide +kernel
theorem dX0_age_4 : decode cX0_age 4 = .ok (.aload_n 0, 1) := by decide +kernel
theorem dX0_age_5 : decode cX0_age 5 = .ok (.getfield 35, 3) := by decide +kernel
theorem dX0_age_8 : decode cX0_age 8 = .ok (.isub, 1) := by decide +kernel
theorem dX0_age_9 : decode cX0_age 9 = .ok (.ireturn, 1) := by decide +kernel
theorem dX0_placeInTurn_0 : decode cX0_placeInTurn 0 = .ok (.aload_n 0, 1) := by decide +kernel
theorem dX0_placeInTurn_1 : decode cX0_placeInTurn 1 = .ok (.getfield 29, 3) := by decide +kernel
theorem dX0_placeInTurn_4 : decode cX0_placeInTurn 4 = .ok (.iconst 1, 1) := by decide +kernel
theorem dX0_placeInTurn_5 : decode cX0_placeInTurn 5 = .ok (.iadd, 1) := by decide +kernel
theorem dX0_placeInTurn_6 : decode cX0_placeInTurn 6 = .ok (.aload_n 0, 1) := by decide +kernel
theorem dX0_placeInTurn_7 : decode cX0_placeInTurn 7 = .ok (.getfield 22, 3) := by decide +kernel
theorem dX0_placeInTurn_10 : decode cX0_placeInTurn 10 = .ok (.getfield 67, 3) := by decide +kernel
theorem dX0_placeInTurn_13 : decode cX0_placeInTurn 13 = .ok (.if_icmp .ge 12, 3) := by decide +kernel
theorem dX0_placeInTurn_16 : decode cX0_placeInTurn 16 = .ok (.aload_n 0, 1) := by decide +kernel
theorem dX0_placeInTurn_17 : decode cX0_placeInTurn 17 = .ok (.getfield 29, 3) := by decide +kernel
theorem dX0_placeInTurn_20 : decode cX0_placeInTurn 20 = .ok (.iconst 1, 1) := by decide +kernel
theorem dX0_placeInTurn_21 : decode cX0_placeInTurn 21 = .ok (.iadd, 1) := by decide +kernel
theorem dX0_placeInTurn_22 : decode cX0_placeInTurn 22 = .ok (.goto 4, 3) := by decide +kernel
theorem dX0_placeInTurn_25 : decode cX0_placeInTurn 25 = .ok (.iconst 0, 1) := by decide +kernel
theorem dX0_placeInTurn_26 : decode cX0_placeInTurn 26 = .ok (.ireturn, 1) := by decide +kernel
theorem dX0_beginAt_0 : decode cX0_beginAt 0 = .ok (.aload_n 0, 1) := by decide +kernel
theorem dX0_beginAt_1 : decode cX0_beginAt 1 = .ok (.iload_n 1, 1) := by decide +kernel
theorem dX0_beginAt_2 : decode cX0_beginAt 2 = .ok (.putfield 29, 3) := by decide +kernel
theorem dX0_beginAt_5 : decode cX0_beginAt 5 = .ok (.aload_n 0, 1) := by decide +kernel
theorem dX0_beginAt_6 : decode cX0_beginAt 6 = .ok (.getfield 25, 3) := by decide +kernel
theorem dX0_beginAt_9 : decode cX0_beginAt 9 = .ok (.iconst 2, 1) := by decide +kernel
theorem dX0_beginAt_10 : decode cX0_beginAt 10 = .ok (.if_icmp .ne 38, 3) := by decide +kernel
theorem dX0_beginAt_13 : decode cX0_beginAt 13 = .ok (.aload_n 0, 1) := by decide +kernel
theorem dX0_beginAt_14 : decode cX0_beginAt 14 = .ok (.aload_n 0, 1) := by decide +kernel
theorem dX0_beginAt_15 : decode cX0_beginAt 15 = .ok (.getfield 29, 3) := by decide +kernel
theorem dX0_beginAt_18 : decode cX0_beginAt 18 = .ok (.aload_n 0, 1) := by decide +kernel
theorem dX0_beginAt_19 : decode cX0_beginAt 19 = .ok (.getfield 9, 3) := by decide +kernel
theorem dX0_beginAt_22 : decode cX0_beginAt 22 = .ok (.iconst 1, 1) := by decide +kernel
theorem dX0_beginAt_23 : decode cX0_beginAt 23 = .ok (.iaload, 1) := by decide +kernel
theorem dX0_beginAt_24 : decode cX0_beginAt 24 = .ok (.if_icmp .ge 12, 3) := by decide +kernel
theorem dX0_beginAt_27 : decode cX0_beginAt 27 = .ok (.aload_n 0, 1) := by decide +kernel
theorem dX0_beginAt_28 : decode cX0_beginAt 28 = .ok (.getfield 9, 3) := by decide +kernel
theorem dX0_beginAt_31 : decode cX0_beginAt 31 = .ok (.iconst 0, 1) := by decide +kernel
theorem dX0_beginAt_32 : decode cX0_beginAt 32 = .ok (.iaload, 1) := by decide +kernel
theorem dX0_beginAt_33 : decode cX0_beginAt 33 = .ok (.goto 9, 3) := by decide +kernel
theorem dX0_beginAt_36 : decode cX0_beginAt 36 = .ok (.aload_n 0, 1) := by decide +kernel
theorem dX0_beginAt_37 : decode cX0_beginAt 37 = .ok (.getfield 9, 3) := by decide +kernel
theorem dX0_beginAt_40 : decode cX0_beginAt 40 = .ok (.iconst 2, 1) := by decide +kernel
theorem dX0_beginAt_41 : decode cX0_beginAt 41 = .ok (.iaload, 1) := by decide +kernel
theorem dX0_beginAt_42 : decode cX0_beginAt 42 = .ok (.putfield 32, 3) := by decide +kernel
theorem dX0_beginAt_45 : decode cX0_beginAt 45 = .ok (.goto 44, 3) := by decide +kernel
theorem dX0_beginAt_48 : decode cX0_beginAt 48 = .ok (.aload_n 0, 1) := by decide +kernel
theorem dX0_beginAt_49 : decode cX0_beginAt 49 = .ok (.aload_n 0, 1) := by decide +kernel
theorem dX0_beginAt_50 : decode cX0_beginAt 50 = .ok (.getfield 29, 3) := by decide +kernel
theorem dX0_beginAt_53 : decode cX0_beginAt 53 = .ok (.ifCond .lt 27, 3) := by decide +kernel
theorem dX0_beginAt_56 : decode cX0_beginAt 56 = .ok (.aload_n 0, 1) := by decide +kernel
theorem dX0_beginAt_57 : decode cX0_beginAt 57 = .ok (.getfield 29, 3) := by decide +kernel
theorem dX0_beginAt_60 : decode cX0_beginAt 60 = .ok (.aload_n 0, 1) := by decide +kernel
theorem dX0_beginAt_61 : decode cX0_beginAt 61 = .ok (.getfield 9, 3) := by decide +kernel
theorem dX0_beginAt_64 : decode cX0_beginAt 64 = .ok (.arraylength, 1) := by decide +kernel
theorem dX0_beginAt_65 : decode cX0_beginAt 65 = .ok (.if_icmp .ge 15, 3) := by decide +kernel
theorem dX0_beginAt_68 : decode cX0_beginAt 68 = .ok (.aload_n 0, 1) := by decide +kernel
theorem dX0_beginAt_69 : decode cX0_beginAt 69 = .ok (.getfield 9, 3) := by decide +kernel
theorem dX0_beginAt_72 : decode cX0_beginAt 72 = .ok (.aload_n 0, 1) := by decide +kernel
theorem dX0_beginAt_73 : decode cX0_beginAt 73 = .ok (.getfield 29, 3) := by decide +kernel
theorem dX0_beginAt_76 : decode cX0_beginAt 76 = .ok (.iaload, 1) := by decide +kernel
theorem dX0_beginAt_77 : decode cX0_beginAt 77 = .ok (.goto 9, 3) := by decide +kernel
theorem dX0_beginAt_80 : decode cX0_beginAt 80 = .ok (.aload_n 0, 1) := by decide +kernel
theorem dX0_beginAt_81 : decode cX0_beginAt 81 = .ok (.getfield 9, 3) := by decide +kernel
theorem dX0_beginAt_84 : decode cX0_beginAt 84 = .ok (.iconst 0, 1) := by decide +kernel
theorem dX0_beginAt_85 : decode cX0_beginAt 85 = .ok (.iaload, 1) := by decide +kernel
theorem dX0_beginAt_86 : decode cX0_beginAt 86 = .ok (.putfield 32, 3) := by decide +kernel
theorem dX0_beginAt_89 : decode cX0_beginAt 89 = .ok (.aload_n 0, 1) := by decide +kernel
theorem dX0_beginAt_90 : decode cX0_beginAt 90 = .ok (.aload_n 0, 1) := by decide +kernel
theorem dX0_beginAt_91 : decode cX0_beginAt 91 = .ok (.getfield 32, 3) := by decide +kernel
theorem dX0_beginAt_94 : decode cX0_beginAt 94 = .ok (.putfield 35, 3) := by decide +kernel
theorem dX0_beginAt_97 : decode cX0_beginAt 97 = .ok (.return_, 1) := by decide +kernel
theorem dX0_passTick_0 : decode cX0_passTick 0 = .ok (.aload_n 0, 1) := by decide +kernel
theorem dX0_passTick_1 : decode cX0_passTick 1 = .ok (.dup, 1) := by decide +kernel
theorem dX0_passTick_2 : decode cX0_passTick 2 = .ok (.getfield 35, 3) := by decide +kernel
theorem dX0_passTick_5 : decode cX0_passTick 5 = .ok (.iconst 1, 1) := by decide +kernel
theorem dX0_passTick_6 : decode cX0_passTick 6 = .ok (.isub, 1) := by decide +kernel
theorem dX0_passTick_7 : decode cX0_passTick 7 = .ok (.putfield 35, 3) := by decide +kernel
theorem dX0_passTick_10 : decode cX0_passTick 10 = .ok (.aload_n 0, 1) := by decide +kernel
theorem dX0_passTick_11 : decode cX0_passTick 11 = .ok (.getfield 35, 3) := by decide +kernel
theorem dX0_passTick_14 : decode cX0_passTick 14 = .ok (.ifCond .le 5, 3) := by decide +kernel
theorem dX0_passTick_17 : decode cX0_passTick 17 = .ok (.iconst 0, 1) := by decide +kernel
theorem dX0_passTick_18 : decode cX0_passTick 18 = .ok (.ireturn, 1) := by decide +kernel
theorem dX0_passTick_19 : decode cX0_passTick 19 = .ok (.aload_n 0, 1) := by decide +kernel
theorem dX0_passTick_20 : decode cX0_passTick 20 = .ok (.getfield 18, 3) := by decide +kernel
theorem dX0_passTick_23 : decode cX0_passTick 23 = .ok (.aload_n 0, 1) := by decide +kernel
theorem dX0_passTick_24 : decode cX0_passTick 24 = .ok (.getfield 32, 3) := by decide +kernel
theorem dX0_passTick_27 : decode cX0_passTick 27 = .ok (.iconst 1, 1) := by decide +kernel
theorem dX0_passTick_28 : decode cX0_passTick 28 = .ok (.invokevirtual 53, 3) := by decide +kernel
theorem dX0_passTick_31 : decode cX0_passTick 31 = .ok (.iconst 1, 1) := by decide +kernel
theorem dX0_passTick_32 : decode cX0_passTick 32 = .ok (.ireturn, 1) := by decide +kernel
theorem dX0_tell_0 : decode cX0_tell 0 = .ok (.iload_n 1, 1) := by decide +kernel
theorem dX0_tell_1 : decode cX0_tell 1 = .ok (.iconst 1, 1) := by decide +kernel
theorem dX0_tell_2 : decode cX0_tell 2 = .ok (.if_icmp .lt 17, 3) := by decide +kernel
theorem dX0_tell_5 : decode cX0_tell 5 = .ok (.iload_n 1, 1) := by decide +kernel
theorem dX0_tell_6 : decode cX0_tell 6 = .ok (.iconst 4, 1) := by decide +kernel
theorem dX0_tell_7 : decode cX0_tell 7 = .ok (.if_icmp .gt 12, 3) := by decide +kernel
theorem dX0_tell_10 : decode cX0_tell 10 = .ok (.aload_n 0, 1) := by decide +kernel
theorem dX0_tell_11 : decode cX0_tell 11 = .ok (.getfield 9, 3) := by decide +kernel
theorem dX0_tell_14 : decode cX0_tell 14 = .ok (.iload_n 1, 1) := by decide +kernel
theorem dX0_tell_15 : decode cX0_tell 15 = .ok (.iconst 1, 1) := by decide +kernel
theorem dX0_tell_16 : decode cX0_tell 16 = .ok (.isub, 1) := by decide +kernel
theorem dX0_tell_17 : decode cX0_tell 17 = .ok (.iaload, 1) := by decide +kernel
theorem dX0_tell_18 : decode cX0_tell 18 = .ok (.ireturn, 1) := by decide +kernel
theorem dX0_tell_19 : decode cX0_tell 19 = .ok (.iload_n 1, 1) := by decide +kernel
theorem dX0_tell_20 : decode cX0_tell 20 = .ok (.tableswitch 137 0 12 #[68, 137, 137, 137, 137, 73, 78, 83, 88, 96, 104, 127, 132], 68) := by decide +kernel
theorem dX0_tell_88 : decode cX0_tell 88 = .ok (.aload_n 0, 1) := by decide +kernel
theorem dX0_tell_89 : decode cX0_tell 89 = .ok (.getfield 25, 3) := by decide +kernel
theorem dX0_tell_92 : decode cX0_tell 92 = .ok (.ireturn, 1) := by decide +kernel
theorem dX0_tell_93 : decode cX0_tell 93 = .ok (.aload_n 0, 1) := by decide +kernel
theorem dX0_tell_94 : decode cX0_tell 94 = .ok (.getfield 32, 3) := by decide +kernel
theorem dX0_tell_97 : decode cX0_tell 97 = .ok (.ireturn, 1) := by decide +kernel
theorem dX0_tell_98 : decode cX0_tell 98 = .ok (.aload_n 0, 1) := by decide +kernel
theorem dX0_tell_99 : decode cX0_tell 99 = .ok (.invokevirtual 70, 3) := by decide +kernel
theorem dX0_tell_102 : decode cX0_tell 102 = .ok (.ireturn, 1) := by decide +kernel
theorem dX0_tell_103 : decode cX0_tell 103 = .ok (.aload_n 0, 1) := by decide +kernel
theorem dX0_tell_104 : decode cX0_tell 104 = .ok (.getfield 35, 3) := by decide +kernel
theorem dX0_tell_107 : decode cX0_tell 107 = .ok (.ireturn, 1) := by decide +kernel
theorem dX0_tell_108 : decode cX0_tell 108 = .ok (.aload_n 0, 1) := by decide +kernel
theorem dX0_tell_109 : decode cX0_tell 109 = .ok (.getfield 18, 3) := by decide +kernel
theorem dX0_tell_112 : decode cX0_tell 112 = .ok (.getfield 67, 3) := by decide +kernel
theorem dX0_tell_115 : decode cX0_tell 115 = .ok (.ireturn, 1) := by decide +kernel
theorem dX0_tell_116 : decode cX0_tell 116 = .ok (.aload_n 0, 1) := by decide +kernel
theorem dX0_tell_117 : decode cX0_tell 117 = .ok (.getfield 18, 3) := by decide +kernel
theorem dX0_tell_120 : decode cX0_tell 120 = .ok (.getfield 74, 3) := by decide +kernel
theorem dX0_tell_123 : decode cX0_tell 123 = .ok (.ireturn, 1) := by decide +kernel
theorem dX0_tell_124 : decode cX0_tell 124 = .ok (.aload_n 0, 1) := by decide +kernel
theorem dX0_tell_125 : decode cX0_tell 125 = .ok (.getfield 18, 3) := by decide +kernel
theorem dX0_tell_128 : decode cX0_tell 128 = .ok (.getfield 67, 3) := by decide +kernel
theorem dX0_tell_131 : decode cX0_tell 131 = .ok (.ifCond .ne 8, 3) := by decide +kernel
theorem dX0_tell_134 : decode cX0_tell 134 = .ok (.ldc 77, 2) := by decide +kernel
theorem dX0_tell_136 : decode cX0_tell 136 = .ok (.goto 10, 3) := by decide +kernel
theorem dX0_tell_139 : decode cX0_tell 139 = .ok (.aload_n 0, 1) := by decide +kernel
theorem dX0_tell_140 : decode cX0_tell 140 = .ok (.getfield 18, 3) := by decide +kernel
theorem dX0_tell_143 : decode cX0_tell 143 = .ok (.getfield 78, 3) := by decide +kernel
theorem dX0_tell_146 : decode cX0_tell 146 = .ok (.ireturn, 1) := by decide +kernel
theorem dX0_tell_147 : decode cX0_tell 147 = .ok (.aload_n 0, 1) := by decide +kernel
theorem dX0_tell_148 : decode cX0_tell 148 = .ok (.getfield 38, 3) := by decide +kernel
theorem dX0_tell_151 : decode cX0_tell 151 = .ok (.ireturn, 1) := by decide +kernel
theorem dX0_tell_152 : decode cX0_tell 152 = .ok (.aload_n 0, 1) := by decide +kernel
theorem dX0_tell_153 : decode cX0_tell 153 = .ok (.getfield 41, 3) := by decide +kernel
theorem dX0_tell_156 : decode cX0_tell 156 = .ok (.ireturn, 1) := by decide +kernel
theorem dX0_tell_157 : decode cX0_tell 157 = .ok (.aload_n 0, 1) := by decide +kernel
theorem dX0_tell_158 : decode cX0_tell 158 = .ok (.getfield 44, 3) := by decide +kernel
theorem dX0_tell_161 : decode cX0_tell 161 = .ok (.ireturn, 1) := by decide +kernel
theorem dX1_init_0 : decode cX1_init 0 = .ok (.aload_n 0, 1) := by decide +kernel
theorem dX1_init_1 : decode cX1_init 1 = .ok (.invokespecial 1, 3) := by decide +kernel
theorem dX1_init_4 : decode cX1_init 4 = .ok (.return_, 1) := by decide +kernel
theorem dX1_empty_0 : decode cX1_empty 0 = .ok (.aload_n 0, 1) := by decide +kernel
theorem dX1_empty_1 : decode cX1_empty 1 = .ok (.iconst 0, 1) := by decide +kernel
theorem dX1_empty_2 : decode cX1_empty 2 = .ok (.putfield 7, 3) := by decide +kernel
theorem dX1_empty_5 : decode cX1_empty 5 = .ok (.aload_n 0, 1) := by decide +kernel
theorem dX1_empty_6 : decode cX1_empty 6 = .ok (.iconst 0, 1) := by decide +kernel
theorem dX1_empty_7 : decode cX1_empty 7 = .ok (.putfield 13, 3) := by decide +kernel
theorem dX1_empty_10 : decode cX1_empty 10 = .ok (.aload_n 0, 1) := by decide +kernel
theorem dX1_empty_11 : decode cX1_empty 11 = .ok (.iconst 0, 1) := by decide +kernel
theorem dX1_empty_12 : decode cX1_empty 12 = .ok (.putfield 16, 3) := by decide +kernel
theorem dX1_empty_15 : decode cX1_empty 15 = .ok (.aload_n 0, 1) := by decide +kernel
theorem dX1_empty_16 : decode cX1_empty 16 = .ok (.iconst 0, 1) := by decide +kernel
theorem dX1_empty_17 : decode cX1_empty 17 = .ok (.putfield 19, 3) := by decide +kernel
theorem dX1_empty_20 : decode cX1_empty 20 = .ok (.aload_n 0, 1) := by decide +kernel
theorem dX1_empty_21 : decode cX1_empty 21 = .ok (.iconst 0, 1) := by decide +kernel
theorem dX1_empty_22 : decode cX1_empty 22 = .ok (.putfield 22, 3) := by decide +kernel
theorem dX1_empty_25 : decode cX1_empty 25 = .ok (.return_, 1) := by decide +kernel
theorem dX1_add_0 : decode cX1_add 0 = .ok (.aload_n 0, 1) := by decide +kernel
theorem dX1_add_1 : decode cX1_add 1 = .ok (.dup, 1) := by decide +kernel
theorem dX1_add_2 : decode cX1_add 2 = .ok (.getfield 7, 3) := by decide +kernel
theorem dX1_add_5 : decode cX1_add 5 = .ok (.iload_n 2, 1) := by decide +kernel
theorem dX1_add_6 : decode cX1_add 6 = .ok (.iadd, 1) := by decide +kernel
theorem dX1_add_7 : decode cX1_add 7 = .ok (.putfield 7, 3) := by decide +kernel
theorem dX1_add_10 : decode cX1_add 10 = .ok (.aload_n 0, 1) := by decide +kernel
theorem dX1_add_11 : decode cX1_add 11 = .ok (.dup, 1) := by decide +kernel
theorem dX1_add_12 : decode cX1_add 12 = .ok (.getfield 13, 3) := by decide +kernel
theorem dX1_add_15 : decode cX1_add 15 = .ok (.iload_n 1, 1) := by decide +kernel
theorem dX1_add_16 : decode cX1_add 16 = .ok (.iload_n 2, 1) := by decide +kernel
theorem dX1_add_17 : decode cX1_add 17 = .ok (.imul, 1) := by decide +kernel
theorem dX1_add_18 : decode cX1_add 18 = .ok (.iadd, 1) := by decide +kernel
theorem dX1_add_19 : decode cX1_add 19 = .ok (.putfield 13, 3) := by decide +kernel
theorem dX1_add_22 : decode cX1_add 22 = .ok (.aload_n 0, 1) := by decide +kernel
theorem dX1_add_23 : decode cX1_add 23 = .ok (.dup, 1) := by decide +kernel
theorem dX1_add_24 : decode cX1_add 24 = .ok (.getfield 16, 3) := by decide +kernel
theorem dX1_add_27 : decode cX1_add 27 = .ok (.iload_n 1, 1) := by decide +kernel
theorem dX1_add_28 : decode cX1_add 28 = .ok (.iload_n 1, 1) := by decide +kernel
theorem dX1_add_29 : decode cX1_add 29 = .ok (.imul, 1) := by decide +kernel
theorem dX1_add_30 : decode cX1_add 30 = .ok (.iload_n 2, 1) := by decide +kernel
theorem dX1_add_31 : decode cX1_add 31 = .ok (.imul, 1) := by decide +kernel
theorem dX1_add_32 : decode cX1_add 32 = .ok (.iadd, 1) := by decide +kernel
theorem dX1_add_33 : decode cX1_add 33 = .ok (.putfield 16, 3) := by decide +kernel
theorem dX1_add_36 : decode cX1_add 36 = .ok (.aload_n 0, 1) := by decide +kernel
theorem dX1_add_37 : decode cX1_add 37 = .ok (.dup, 1) := by decide +kernel
theorem dX1_add_38 : decode cX1_add 38 = .ok (.getfield 19, 3) := by decide +kernel
theorem dX1_add_41 : decode cX1_add 41 = .ok (.iload_n 1, 1) := by decide +kernel
theorem dX1_add_42 : decode cX1_add 42 = .ok (.iload_n 1, 1) := by decide +kernel
theorem dX1_add_43 : decode cX1_add 43 = .ok (.iconst 1, 1) := by decide +kernel
theorem dX1_add_44 : decode cX1_add 44 = .ok (.iadd, 1) := by decide +kernel
theorem dX1_add_45 : decode cX1_add 45 = .ok (.imul, 1) := by decide +kernel
theorem dX1_add_46 : decode cX1_add 46 = .ok (.iconst 2, 1) := by decide +kernel
theorem dX1_add_47 : decode cX1_add 47 = .ok (.idiv, 1) := by decide +kernel
theorem dX1_add_48 : decode cX1_add 48 = .ok (.iload_n 2, 1) := by decide +kernel
theorem dX1_add_49 : decode cX1_add 49 = .ok (.imul, 1) := by decide +kernel
theorem dX1_add_50 : decode cX1_add 50 = .ok (.iadd, 1) := by decide +kernel
theorem dX1_add_51 : decode cX1_add 51 = .ok (.putfield 19, 3) := by decide +kernel
theorem dX1_add_54 : decode cX1_add 54 = .ok (.iload_n 1, 1) := by decide +kernel
theorem dX1_add_55 : decode cX1_add 55 = .ok (.aload_n 0, 1) := by decide +kernel
theorem dX1_add_56 : decode cX1_add 56 = .ok (.getfield 22, 3) := by decide +kernel
theorem dX1_add_59 : decode cX1_add 59 = .ok (.if_icmp .le 8, 3) := by decide +kernel
theorem dX1_add_62 : decode cX1_add 62 = .ok (.aload_n 0, 1) := by decide +kernel
theorem dX1_add_63 : decode cX1_add 63 = .ok (.iload_n 1, 1) := by decide +kernel
theorem dX1_add_64 : decode cX1_add 64 = .ok (.putfield 22, 3) := by decide +kernel
theorem dX1_add_67 : decode cX1_add 67 = .ok (.return_, 1) := by decide +kernel
theorem dX1_copyFrom_0 : decode cX1_copyFrom 0 = .ok (.aload_n 0, 1) := by decide +kernel
theorem dX1_copyFrom_1 : decode cX1_copyFrom 1 = .ok (.aload_n 1, 1) := by decide +kernel
theorem dX1_copyFrom_2 : decode cX1_copyFrom 2 = .ok (.getfield 7, 3) := by decide +kernel
theorem dX1_copyFrom_5 : decode cX1_copyFrom 5 = .ok (.putfield 7, 3) := by decide +kernel
theorem dX1_copyFrom_8 : decode cX1_copyFrom 8 = .ok (.aload_n 0, 1) := by decide +kernel
theorem dX1_copyFrom_9 : decode cX1_copyFrom 9 = .ok (.aload_n 1, 1) := by decide +kernel
theorem dX1_copyFrom_10 : decode cX1_copyFrom 10 = .ok (.getfield 13, 3) := by decide +kernel
theorem dX1_copyFrom_13 : decode cX1_copyFrom 13 = .ok (.putfield 13, 3) := by decide +kernel
theorem dX1_copyFrom_16 : decode cX1_copyFrom 16 = .ok (.aload_n 0, 1) := by decide +kernel
theorem dX1_copyFrom_17 : decode cX1_copyFrom 17 = .ok (.aload_n 1, 1) := by decide +kernel
theorem dX1_copyFrom_18 : decode cX1_copyFrom 18 = .ok (.getfield 16, 3) := by decide +kernel
theorem dX1_copyFrom_21 : decode cX1_copyFrom 21 = .ok (.putfield 16, 3) := by decide +kernel
theorem dX1_copyFrom_24 : decode cX1_copyFrom 24 = .ok (.aload_n 0, 1) := by decide +kernel
theorem dX1_copyFrom_25 : decode cX1_copyFrom 25 = .ok (.aload_n 1, 1) := by decide +kernel
theorem dX1_copyFrom_26 : decode cX1_copyFrom 26 = .ok (.getfield 19, 3) := by decide +kernel
theorem dX1_copyFrom_29 : decode cX1_copyFrom 29 = .ok (.putfield 19, 3) := by decide +kernel
theorem dX1_copyFrom_32 : decode cX1_copyFrom 32 = .ok (.aload_n 0, 1) := by decide +kernel
theorem dX1_copyFrom_33 : decode cX1_copyFrom 33 = .ok (.aload_n 1, 1) := by decide +kernel
theorem dX1_copyFrom_34 : decode cX1_copyFrom 34 = .ok (.getfield 22, 3) := by decide +kernel
theorem dX1_copyFrom_37 : decode cX1_copyFrom 37 = .ok (.putfield 22, 3) := by decide +kernel
theorem dX1_copyFrom_40 : decode cX1_copyFrom 40 = .ok (.return_, 1) := by decide +kernel
theorem dX2_init_0 : decode cX2_init 0 = .ok (.aload_n 0, 1) := by decide +kernel
theorem dX2_init_1 : decode cX2_init 1 = .ok (.invokespecial 1, 3) := by decide +kernel
theorem dX2_init_4 : decode cX2_init 4 = .ok (.return_, 1) := by decide +kernel
theorem dX2_set_0 : decode cX2_set 0 = .ok (.aload_n 0, 1) := by decide +kernel
theorem dX2_set_1 : decode cX2_set 1 = .ok (.iload_n 1, 1) := by decide +kernel
theorem dX2_set_2 : decode cX2_set 2 = .ok (.putfield 7, 3) := by decide +kernel
theorem dX2_set_5 : decode cX2_set 5 = .ok (.aload_n 0, 1) := by decide +kernel
theorem dX2_set_6 : decode cX2_set 6 = .ok (.iconst 0, 1) := by decide +kernel
theorem dX2_set_7 : decode cX2_set 7 = .ok (.putfield 13, 3) := by decide +kernel
theorem dX2_set_10 : decode cX2_set 10 = .ok (.aload_n 0, 1) := by decide +kernel
theorem dX2_set_11 : decode cX2_set 11 = .ok (.iconst 0, 1) := by decide +kernel
theorem dX2_set_12 : decode cX2_set 12 = .ok (.putfield 16, 3) := by decide +kernel
theorem dX2_set_15 : decode cX2_set 15 = .ok (.aload_n 0, 1) := by decide +kernel
theorem dX2_set_16 : decode cX2_set 16 = .ok (.iconst 0, 1) := by decide +kernel
theorem dX2_set_17 : decode cX2_set 17 = .ok (.putfield 19, 3) := by decide +kernel
theorem dX2_set_20 : decode cX2_set 20 = .ok (.return_, 1) := by decide +kernel
theorem dX2_copyFrom_0 : decode cX2_copyFrom 0 = .ok (.aload_n 0, 1) := by decide +kernel
theorem dX2_copyFrom_1 : decode cX2_copyFrom 1 = .ok (.aload_n 1, 1) := by decide +kernel
theorem dX2_copyFrom_2 : decode cX2_copyFrom 2 = .ok (.getfield 7, 3) := by decide +kernel
theorem dX2_copyFrom_5 : decode cX2_copyFrom 5 = .ok (.putfield 7, 3) := by decide +kernel
theorem dX2_copyFrom_8 : decode cX2_copyFrom 8 = .ok (.aload_n 0, 1) := by decide +kernel
theorem dX2_copyFrom_9 : decode cX2_copyFrom 9 = .ok (.aload_n 1, 1) := by decide +kernel
theorem dX2_copyFrom_10 : decode cX2_copyFrom 10 = .ok (.getfield 13, 3) := by decide +kernel
theorem dX2_copyFrom_13 : decode cX2_copyFrom 13 = .ok (.putfield 13, 3) := by decide +kernel
theorem dX2_copyFrom_16 : decode cX2_copyFrom 16 = .ok (.aload_n 0, 1) := by decide +kernel
theorem dX2_copyFrom_17 : decode cX2_copyFrom 17 = .ok (.aload_n 1, 1) := by decide +kernel
theorem dX2_copyFrom_18 : decode cX2_copyFrom 18 = .ok (.getfield 16, 3) := by decide +kernel
theorem dX2_copyFrom_21 : decode cX2_copyFrom 21 = .ok (.putfield 16, 3) := by decide +kernel
theorem dX2_copyFrom_24 : decode cX2_copyFrom 24 = .ok (.aload_n 0, 1) := by decide +kernel
theorem dX2_copyFrom_25 : decode cX2_copyFrom 25 = .ok (.aload_n 1, 1) := by decide +kernel
theorem dX2_copyFrom_26 : decode cX2_copyFrom 26 = .ok (.getfield 19, 3) := by decide +kernel
theorem dX2_copyFrom_29 : decode cX2_copyFrom 29 = .ok (.putfield 19, 3) := by decide +kernel
theorem dX2_copyFrom_32 : decode cX2_copyFrom 32 = .ok (.return_, 1) := by decide +kernel
theorem dX2_has_0 : decode cX2_has 0 = .ok (.aload_n 0, 1) := by decide +kernel
theorem dX2_has_1 : decode cX2_has 1 = .ok (.getfield 13, 3) := by decide +kernel
theorem dX2_has_4 : decode cX2_has 4 = .ok (.iconst 1, 1) := by decide +kernel
theorem dX2_has_5 : decode cX2_has 5 = .ok (.iload_n 1, 1) := by decide +kernel
theorem dX2_has_6 : decode cX2_has 6 = .ok (.ishl, 1) := by decide +kernel
theorem dX2_has_7 : decode cX2_has 7 = .ok (.iand, 1) := by decide +kernel
theorem dX2_has_8 : decode cX2_has 8 = .ok (.ifCond .eq 7, 3) := by decide +kernel
theorem dX2_has_11 : decode cX2_has 11 = .ok (.iconst 1, 1) := by decide +kernel
theorem dX2_has_12 : decode cX2_has 12 = .ok (.goto 4, 3) := by decide +kernel
theorem dX2_has_15 : decode cX2_has 15 = .ok (.iconst 0, 1) := by decide +kernel
theorem dX2_has_16 : decode cX2_has 16 = .ok (.ireturn, 1) := by decide +kernel
theorem dX2_size_0 : decode cX2_size 0 = .ok (.aload_n 0, 1) := by decide +kernel
theorem dX2_size_1 : decode cX2_size 1 = .ok (.getfield 13, 3) := by decide +kernel
theorem dX2_size_4 : decode cX2_size 4 = .ok (.invokestatic 22, 3) := by decide +kernel
theorem dX2_size_7 : decode cX2_size 7 = .ok (.ireturn, 1) := by decide +kernel
theorem dX2_passTick_0 : decode cX2_passTick 0 = .ok (.aload_n 0, 1) := by decide +kernel
theorem dX2_passTick_1 : decode cX2_passTick 1 = .ok (.getfield 13, 3) := by decide +kernel
theorem dX2_passTick_4 : decode cX2_passTick 4 = .ok (.iload_n 1, 1) := by decide +kernel
theorem dX2_passTick_5 : decode cX2_passTick 5 = .ok (.iand, 1) := by decide +kernel
theorem dX2_passTick_6 : decode cX2_passTick 6 = .ok (.invokestatic 22, 3) := by decide +kernel
theorem dX2_passTick_9 : decode cX2_passTick 9 = .ok (.istore_n 2, 1) := by decide +kernel
theorem dX2_passTick_10 : decode cX2_passTick 10 = .ok (.aload_n 0, 1) := by decide +kernel
theorem dX2_passTick_11 : decode cX2_passTick 11 = .ok (.dup, 1) := by decide +kernel
theorem dX2_passTick_12 : decode cX2_passTick 12 = .ok (.getfield 16, 3) := by decide +kernel
theorem dX2_passTick_15 : decode cX2_passTick 15 = .ok (.iload_n 2, 1) := by decide +kernel
theorem dX2_passTick_16 : decode cX2_passTick 16 = .ok (.iadd, 1) := by decide +kernel
theorem dX2_passTick_17 : decode cX2_passTick 17 = .ok (.putfield 16, 3) := by decide +kernel
theorem dX2_passTick_20 : decode cX2_passTick 20 = .ok (.iload_n 2, 1) := by decide +kernel
theorem dX2_passTick_21 : decode cX2_passTick 21 = .ok (.iconst 2, 1) := by decide +kernel
theorem dX2_passTick_22 : decode cX2_passTick 22 = .ok (.if_icmp .lt 13, 3) := by decide +kernel
theorem dX2_passTick_25 : decode cX2_passTick 25 = .ok (.aload_n 0, 1) := by decide +kernel
theorem dX2_passTick_26 : decode cX2_passTick 26 = .ok (.dup, 1) := by decide +kernel
theorem dX2_passTick_27 : decode cX2_passTick 27 = .ok (.getfield 19, 3) := by decide +kernel
theorem dX2_passTick_30 : decode cX2_passTick 30 = .ok (.iconst 1, 1) := by decide +kernel
theorem dX2_passTick_31 : decode cX2_passTick 31 = .ok (.iadd, 1) := by decide +kernel
theorem dX2_passTick_32 : decode cX2_passTick 32 = .ok (.putfield 19, 3) := by decide +kernel
theorem dX2_passTick_35 : decode cX2_passTick 35 = .ok (.return_, 1) := by decide +kernel
theorem dX3_init_0 : decode cX3_init 0 = .ok (.aload_n 0, 1) := by decide +kernel
theorem dX3_init_1 : decode cX3_init 1 = .ok (.invokespecial 3, 3) := by decide +kernel
theorem dX3_init_4 : decode cX3_init 4 = .ok (.aload_n 0, 1) := by decide +kernel
theorem dX3_init_5 : decode cX3_init 5 = .ok (.bipush 6, 2) := by decide +kernel
theorem dX3_init_7 : decode cX3_init 7 = .ok (.anewarray 9, 3) := by decide +kernel
theorem dX3_init_10 : decode cX3_init 10 = .ok (.putfield 11, 3) := by decide +kernel
theorem dX3_init_13 : decode cX3_init 13 = .ok (.aload_n 0, 1) := by decide +kernel
theorem dX3_init_14 : decode cX3_init 14 = .ok (.iconst 4, 1) := by decide +kernel
theorem dX3_init_15 : decode cX3_init 15 = .ok (.anewarray 17, 3) := by decide +kernel
theorem dX3_init_18 : decode cX3_init 18 = .ok (.putfield 19, 3) := by decide +kernel
theorem dX3_init_21 : decode cX3_init 21 = .ok (.aload_n 0, 1) := by decide +kernel
theorem dX3_init_22 : decode cX3_init 22 = .ok (.iconst 1, 1) := by decide +kernel
theorem dX3_init_23 : decode cX3_init 23 = .ok (.putfield 23, 3) := by decide +kernel
theorem dX3_init_26 : decode cX3_init 26 = .ok (.iconst 0, 1) := by decide +kernel
theorem dX3_init_27 : decode cX3_init 27 = .ok (.istore_n 1, 1) := by decide +kernel
theorem dX3_init_28 : decode cX3_init 28 = .ok (.iload_n 1, 1) := by decide +kernel
theorem dX3_init_29 : decode cX3_init 29 = .ok (.aload_n 0, 1) := by decide +kernel
theorem dX3_init_30 : decode cX3_init 30 = .ok (.getfield 11, 3) := by decide +kernel
theorem dX3_init_33 : decode cX3_init 33 = .ok (.arraylength, 1) := by decide +kernel
theorem dX3_init_34 : decode cX3_init 34 = .ok (.if_icmp .ge 22, 3) := by decide +kernel
theorem dX3_init_37 : decode cX3_init 37 = .ok (.aload_n 0, 1) := by decide +kernel
theorem dX3_init_38 : decode cX3_init 38 = .ok (.getfield 11, 3) := by decide +kernel
theorem dX3_init_41 : decode cX3_init 41 = .ok (.iload_n 1, 1) := by decide +kernel
theorem dX3_init_42 : decode cX3_init 42 = .ok (.new 9, 3) := by decide +kernel
theorem dX3_init_45 : decode cX3_init 45 = .ok (.dup, 1) := by decide +kernel
theorem dX3_init_46 : decode cX3_init 46 = .ok (.invokespecial 27, 3) := by decide +kernel
theorem dX3_init_49 : decode cX3_init 49 = .ok (.aastore, 1) := by decide +kernel
theorem dX3_init_50 : decode cX3_init 50 = .ok (.iinc 1 1, 3) := by decide +kernel
theorem dX3_init_53 : decode cX3_init 53 = .ok (.goto (-25), 3) := by decide +kernel
theorem dX3_init_56 : decode cX3_init 56 = .ok (.iconst 0, 1) := by decide +kernel
theorem dX3_init_57 : decode cX3_init 57 = .ok (.istore_n 1, 1) := by decide +kernel
theorem dX3_init_58 : decode cX3_init 58 = .ok (.iload_n 1, 1) := by decide +kernel
theorem dX3_init_59 : decode cX3_init 59 = .ok (.aload_n 0, 1) := by decide +kernel
theorem dX3_init_60 : decode cX3_init 60 = .ok (.getfield 19, 3) := by decide +kernel
theorem dX3_init_63 : decode cX3_init 63 = .ok (.arraylength, 1) := by decide +kernel
theorem dX3_init_64 : decode cX3_init 64 = .ok (.if_icmp .ge 22, 3) := by decide +kernel
theorem dX3_init_67 : decode cX3_init 67 = .ok (.aload_n 0, 1) := by decide +kernel
theorem dX3_init_68 : decode cX3_init 68 = .ok (.getfield 19, 3) := by decide +kernel
theorem dX3_init_71 : decode cX3_init 71 = .ok (.iload_n 1, 1) := by decide +kernel
theorem dX3_init_72 : decode cX3_init 72 = .ok (.new 17, 3) := by decide +kernel
theorem dX3_init_75 : decode cX3_init 75 = .ok (.dup, 1) := by decide +kernel
theorem dX3_init_76 : decode cX3_init 76 = .ok (.invokespecial 28, 3) := by decide +kernel
theorem dX3_init_79 : decode cX3_init 79 = .ok (.aastore, 1) := by decide +kernel
theorem dX3_init_80 : decode cX3_init 80 = .ok (.iinc 1 1, 3) := by decide +kernel
theorem dX3_init_83 : decode cX3_init 83 = .ok (.goto (-25), 3) := by decide +kernel
theorem dX3_init_86 : decode cX3_init 86 = .ok (.return_, 1) := by decide +kernel
theorem dX3_copyFrom_0 : decode cX3_copyFrom 0 = .ok (.aload_n 0, 1) := by decide +kernel
theorem dX3_copyFrom_1 : decode cX3_copyFrom 1 = .ok (.aload_n 1, 1) := by decide +kernel
theorem dX3_copyFrom_2 : decode cX3_copyFrom 2 = .ok (.getfield 29, 3) := by decide +kernel
theorem dX3_copyFrom_5 : decode cX3_copyFrom 5 = .ok (.putfield 29, 3) := by decide +kernel
theorem dX3_copyFrom_8 : decode cX3_copyFrom 8 = .ok (.iconst 0, 1) := by decide +kernel
theorem dX3_copyFrom_9 : decode cX3_copyFrom 9 = .ok (.istore_n 2, 1) := by decide +kernel
theorem dX3_copyFrom_10 : decode cX3_copyFrom 10 = .ok (.iload_n 2, 1) := by decide +kernel
theorem dX3_copyFrom_11 : decode cX3_copyFrom 11 = .ok (.aload_n 0, 1) := by decide +kernel
theorem dX3_copyFrom_12 : decode cX3_copyFrom 12 = .ok (.getfield 29, 3) := by decide +kernel
theorem dX3_copyFrom_15 : decode cX3_copyFrom 15 = .ok (.if_icmp .ge 30, 3) := by decide +kernel
theorem dX3_copyFrom_18 : decode cX3_copyFrom 18 = .ok (.iload_n 2, 1) := by decide +kernel
theorem dX3_copyFrom_19 : decode cX3_copyFrom 19 = .ok (.bipush 6, 2) := by decide +kernel
theorem dX3_copyFrom_21 : decode cX3_copyFrom 21 = .ok (.if_icmp .ge 24, 3) := by decide +kernel
theorem dX3_copyFrom_24 : decode cX3_copyFrom 24 = .ok (.aload_n 0, 1) := by decide +kernel
theorem dX3_copyFrom_25 : decode cX3_copyFrom 25 = .ok (.getfield 11, 3) := by decide +kernel
theorem dX3_copyFrom_28 : decode cX3_copyFrom 28 = .ok (.iload_n 2, 1) := by decide +kernel
theorem dX3_copyFrom_29 : decode cX3_copyFrom 29 = .ok (.aaload, 1) := by decide +kernel
theorem dX3_copyFrom_30 : decode cX3_copyFrom 30 = .ok (.aload_n 1, 1) := by decide +kernel
theorem dX3_copyFrom_31 : decode cX3_copyFrom 31 = .ok (.getfield 11, 3) := by decide +kernel
theorem dX3_copyFrom_34 : decode cX3_copyFrom 34 = .ok (.iload_n 2, 1) := by decide +kernel
theorem dX3_copyFrom_35 : decode cX3_copyFrom 35 = .ok (.aaload, 1) := by decide +kernel
theorem dX3_copyFrom_36 : decode cX3_copyFrom 36 = .ok (.invokevirtual 32, 3) := by decide +kernel
theorem dX3_copyFrom_39 : decode cX3_copyFrom 39 = .ok (.iinc 2 1, 3) := by decide +kernel
theorem dX3_copyFrom_42 : decode cX3_copyFrom 42 = .ok (.goto (-32), 3) := by decide +kernel
theorem dX3_copyFrom_45 : decode cX3_copyFrom 45 = .ok (.aload_n 0, 1) := by decide +kernel
theorem dX3_copyFrom_46 : decode cX3_copyFrom 46 = .ok (.aload_n 1, 1) := by decide +kernel
theorem dX3_copyFrom_47 : decode cX3_copyFrom 47 = .ok (.getfield 36, 3) := by decide +kernel
theorem dX3_copyFrom_50 : decode cX3_copyFrom 50 = .ok (.putfield 36, 3) := by decide +kernel
theorem dX3_copyFrom_53 : decode cX3_copyFrom 53 = .ok (.iconst 0, 1) := by decide +kernel
theorem dX3_copyFrom_54 : decode cX3_copyFrom 54 = .ok (.istore_n 2, 1) := by decide +kernel
theorem dX3_copyFrom_55 : decode cX3_copyFrom 55 = .ok (.iload_n 2, 1) := by decide +kernel
theorem dX3_copyFrom_56 : decode cX3_copyFrom 56 = .ok (.aload_n 0, 1) := by decide +kernel
theorem dX3_copyFrom_57 : decode cX3_copyFrom 57 = .ok (.getfield 36, 3) := by decide +kernel
theorem dX3_copyFrom_60 : decode cX3_copyFrom 60 = .ok (.if_icmp .ge 29, 3) := by decide +kernel
theorem dX3_copyFrom_63 : decode cX3_copyFrom 63 = .ok (.iload_n 2, 1) := by decide +kernel
theorem dX3_copyFrom_64 : decode cX3_copyFrom 64 = .ok (.iconst 4, 1) := by decide +kernel
theorem dX3_copyFrom_65 : decode cX3_copyFrom 65 = .ok (.if_icmp .ge 24, 3) := by decide +kernel
theorem dX3_copyFrom_68 : decode cX3_copyFrom 68 = .ok (.aload_n 0, 1) := by decide +kernel
theorem dX3_copyFrom_69 : decode cX3_copyFrom 69 = .ok (.getfield 19, 3) := by decide +kernel
theorem dX3_copyFrom_72 : decode cX3_copyFrom 72 = .ok (.iload_n 2, 1) := by decide +kernel
theorem dX3_copyFrom_73 : decode cX3_copyFrom 73 = .ok (.aaload, 1) := by decide +kernel
theorem dX3_copyFrom_74 : decode cX3_copyFrom 74 = .ok (.aload_n 1, 1) := by decide +kernel
theorem dX3_copyFrom_75 : decode cX3_copyFrom 75 = .ok (.getfield 19, 3) := by decide +kernel
theorem dX3_copyFrom_78 : decode cX3_copyFrom 78 = .ok (.iload_n 2, 1) := by decide +kernel
theorem dX3_copyFrom_79 : decode cX3_copyFrom 79 = .ok (.aaload, 1) := by decide +kernel
theorem dX3_copyFrom_80 : decode cX3_copyFrom 80 = .ok (.invokevirtual 39, 3) := by decide +kernel
theorem dX3_copyFrom_83 : decode cX3_copyFrom 83 = .ok (.iinc 2 1, 3) := by decide +kernel
theorem dX3_copyFrom_86 : decode cX3_copyFrom 86 = .ok (.goto (-31), 3) := by decide +kernel
theorem dX3_copyFrom_89 : decode cX3_copyFrom 89 = .ok (.aload_n 0, 1) := by decide +kernel
theorem dX3_copyFrom_90 : decode cX3_copyFrom 90 = .ok (.aload_n 1, 1) := by decide +kernel
theorem dX3_copyFrom_91 : decode cX3_copyFrom 91 = .ok (.getfield 42, 3) := by decide +kernel
theorem dX3_copyFrom_94 : decode cX3_copyFrom 94 = .ok (.putfield 42, 3) := by decide +kernel
theorem dX3_copyFrom_97 : decode cX3_copyFrom 97 = .ok (.aload_n 0, 1) := by decide +kernel
theorem dX3_copyFrom_98 : decode cX3_copyFrom 98 = .ok (.aload_n 1, 1) := by decide +kernel
theorem dX3_copyFrom_99 : decode cX3_copyFrom 99 = .ok (.getfield 23, 3) := by decide +kernel
theorem dX3_copyFrom_102 : decode cX3_copyFrom 102 = .ok (.putfield 23, 3) := by decide +kernel
theorem dX3_copyFrom_105 : decode cX3_copyFrom 105 = .ok (.return_, 1) := by decide +kernel
theorem dX3_clockAt_0 : decode cX3_clockAt 0 = .ok (.iload_n 1, 1) := by decide +kernel
theorem dX3_clockAt_1 : decode cX3_clockAt 1 = .ok (.ifCond .lt 20, 3) := by decide +kernel
theorem dX3_clockAt_4 : decode cX3_clockAt 4 = .ok (.iload_n 1, 1) := by decide +kernel
theorem dX3_clockAt_5 : decode cX3_clockAt 5 = .ok (.aload_n 0, 1) := by decide +kernel
theorem dX3_clockAt_6 : decode cX3_clockAt 6 = .ok (.getfield 29, 3) := by decide +kernel
theorem dX3_clockAt_9 : decode cX3_clockAt 9 = .ok (.if_icmp .ge 12, 3) := by decide +kernel
theorem dX3_clockAt_12 : decode cX3_clockAt 12 = .ok (.iload_n 1, 1) := by decide +kernel
theorem dX3_clockAt_13 : decode cX3_clockAt 13 = .ok (.aload_n 0, 1) := by decide +kernel
theorem dX3_clockAt_14 : decode cX3_clockAt 14 = .ok (.getfield 11, 3) := by decide +kernel
theorem dX3_clockAt_17 : decode cX3_clockAt 17 = .ok (.arraylength, 1) := by decide +kernel
theorem dX3_clockAt_18 : decode cX3_clockAt 18 = .ok (.if_icmp .lt 5, 3) := by decide +kernel
theorem dX3_clockAt_21 : decode cX3_clockAt 21 = .ok (.aconst_null, 1) := by decide +kernel
theorem dX3_clockAt_22 : decode cX3_clockAt 22 = .ok (.areturn, 1) := by decide +kernel
theorem dX3_clockAt_23 : decode cX3_clockAt 23 = .ok (.aload_n 0, 1) := by decide +kernel
theorem dX3_clockAt_24 : decode cX3_clockAt 24 = .ok (.getfield 11, 3) := by decide +kernel
theorem dX3_clockAt_27 : decode cX3_clockAt 27 = .ok (.iload_n 1, 1) := by decide +kernel
theorem dX3_clockAt_28 : decode cX3_clockAt 28 = .ok (.aaload, 1) := by decide +kernel
theorem dX3_clockAt_29 : decode cX3_clockAt 29 = .ok (.areturn, 1) := by decide +kernel
theorem dX3_groupAt_0 : decode cX3_groupAt 0 = .ok (.iload_n 1, 1) := by decide +kernel
theorem dX3_groupAt_1 : decode cX3_groupAt 1 = .ok (.ifCond .lt 20, 3) := by decide +kernel
theorem dX3_groupAt_4 : decode cX3_groupAt 4 = .ok (.iload_n 1, 1) := by decide +kernel
theorem dX3_groupAt_5 : decode cX3_groupAt 5 = .ok (.aload_n 0, 1) := by decide +kernel
theorem dX3_groupAt_6 : decode cX3_groupAt 6 = .ok (.getfield 36, 3) := by decide +kernel
theorem dX3_groupAt_9 : decode cX3_groupAt 9 = .ok (.if_icmp .ge 12, 3) := by decide +kernel
theorem dX3_groupAt_12 : decode cX3_groupAt 12 = .ok (.iload_n 1, 1) := by decide +kernel
theorem dX3_groupAt_13 : decode cX3_groupAt 13 = .ok (.aload_n 0, 1) := by decide +kernel
theorem dX3_groupAt_14 : decode cX3_groupAt 14 = .ok (.getfield 19, 3) := by decide +kernel
theorem dX3_groupAt_17 : decode cX3_groupAt 17 = .ok (.arraylength, 1) := by decide +kernel
theorem dX3_groupAt_18 : decode cX3_groupAt 18 = .ok (.if_icmp .lt 5, 3) := by decide +kernel
theorem dX3_groupAt_21 : decode cX3_groupAt 21 = .ok (.aconst_null, 1) := by decide +kernel
theorem dX3_groupAt_22 : decode cX3_groupAt 22 = .ok (.areturn, 1) := by decide +kernel
theorem dX3_groupAt_23 : decode cX3_groupAt 23 = .ok (.aload_n 0, 1) := by decide +kernel
theorem dX3_groupAt_24 : decode cX3_groupAt 24 = .ok (.getfield 19, 3) := by decide +kernel
theorem dX3_groupAt_27 : decode cX3_groupAt 27 = .ok (.iload_n 1, 1) := by decide +kernel
theorem dX3_groupAt_28 : decode cX3_groupAt 28 = .ok (.aaload, 1) := by decide +kernel
theorem dX3_groupAt_29 : decode cX3_groupAt 29 = .ok (.areturn, 1) := by decide +kernel
theorem dX3_addClock_0 : decode cX3_addClock 0 = .ok (.iload_n 1, 1) := by decide +kernel
theorem dX3_addClock_1 : decode cX3_addClock 1 = .ok (.iload_n 2, 1) := by decide +kernel
theorem dX3_addClock_2 : decode cX3_addClock 2 = .ok (.iload_n 3, 1) := by decide +kernel
theorem dX3_addClock_3 : decode cX3_addClock 3 = .ok (.iload 4, 2) := by decide +kernel
theorem dX3_addClock_5 : decode cX3_addClock 5 = .ok (.iload 5, 2) := by decide +kernel
theorem dX3_addClock_7 : decode cX3_addClock 7 = .ok (.invokestatic 45, 3) := by decide +kernel
theorem dX3_addClock_10 : decode cX3_addClock 10 = .ok (.ifCond .ne 6, 3) := by decide +kernel
theorem dX3_addClock_13 : decode cX3_addClock 13 = .ok (.ldc 49, 2) := by decide +kernel
theorem dX3_addClock_15 : decode cX3_addClock 15 = .ok (.ireturn, 1) := by decide +kernel
theorem dX3_addClock_16 : decode cX3_addClock 16 = .ok (.aload_n 0, 1) := by decide +kernel
theorem dX3_addClock_17 : decode cX3_addClock 17 = .ok (.getfield 29, 3) := by decide +kernel
theorem dX3_addClock_20 : decode cX3_addClock 20 = .ok (.aload_n 0, 1) := by decide +kernel
theorem dX3_addClock_21 : decode cX3_addClock 21 = .ok (.getfield 11, 3) := by decide +kernel
theorem dX3_addClock_24 : decode cX3_addClock 24 = .ok (.arraylength, 1) := by decide +kernel
theorem dX3_addClock_25 : decode cX3_addClock 25 = .ok (.if_icmp .lt 6, 3) := by decide +kernel
theorem dX3_addClock_28 : decode cX3_addClock 28 = .ok (.ldc 50, 2) := by decide +kernel
theorem dX3_addClock_30 : decode cX3_addClock 30 = .ok (.ireturn, 1) := by decide +kernel
theorem dX3_addClock_31 : decode cX3_addClock 31 = .ok (.aload_n 0, 1) := by decide +kernel
theorem dX3_addClock_32 : decode cX3_addClock 32 = .ok (.getfield 11, 3) := by decide +kernel
theorem dX3_addClock_35 : decode cX3_addClock 35 = .ok (.aload_n 0, 1) := by decide +kernel
theorem dX3_addClock_36 : decode cX3_addClock 36 = .ok (.getfield 29, 3) := by decide +kernel
theorem dX3_addClock_39 : decode cX3_addClock 39 = .ok (.aaload, 1) := by decide +kernel
theorem dX3_addClock_40 : decode cX3_addClock 40 = .ok (.astore 6, 2) := by decide +kernel
theorem dX3_addClock_42 : decode cX3_addClock 42 = .ok (.aload 6, 2) := by decide +kernel
theorem dX3_addClock_44 : decode cX3_addClock 44 = .ok (.iload_n 1, 1) := by decide +kernel
theorem dX3_addClock_45 : decode cX3_addClock 45 = .ok (.iload_n 2, 1) := by decide +kernel
theorem dX3_addClock_46 : decode cX3_addClock 46 = .ok (.iload_n 3, 1) := by decide +kernel
theorem dX3_addClock_47 : decode cX3_addClock 47 = .ok (.iload 4, 2) := by decide +kernel
theorem dX3_addClock_49 : decode cX3_addClock 49 = .ok (.iload 5, 2) := by decide +kernel
theorem dX3_addClock_51 : decode cX3_addClock 51 = .ok (.invokevirtual 51, 3) := by decide +kernel
theorem dX3_addClock_54 : decode cX3_addClock 54 = .ok (.aload_n 0, 1) := by decide +kernel
theorem dX3_addClock_55 : decode cX3_addClock 55 = .ok (.aload 6, 2) := by decide +kernel
theorem dX3_addClock_57 : decode cX3_addClock 57 = .ok (.invokevirtual 55, 3) := by decide +kernel
theorem dX3_addClock_60 : decode cX3_addClock 60 = .ok (.aload_n 0, 1) := by decide +kernel
theorem dX3_addClock_61 : decode cX3_addClock 61 = .ok (.dup, 1) := by decide +kernel
theorem dX3_addClock_62 : decode cX3_addClock 62 = .ok (.getfield 29, 3) := by decide +kernel
theorem dX3_addClock_65 : decode cX3_addClock 65 = .ok (.iconst 1, 1) := by decide +kernel
theorem dX3_addClock_66 : decode cX3_addClock 66 = .ok (.iadd, 1) := by decide +kernel
theorem dX3_addClock_67 : decode cX3_addClock 67 = .ok (.putfield 29, 3) := by decide +kernel
theorem dX3_addClock_70 : decode cX3_addClock 70 = .ok (.aload_n 0, 1) := by decide +kernel
theorem dX3_addClock_71 : decode cX3_addClock 71 = .ok (.getfield 29, 3) := by decide +kernel
theorem dX3_addClock_74 : decode cX3_addClock 74 = .ok (.iconst 1, 1) := by decide +kernel
theorem dX3_addClock_75 : decode cX3_addClock 75 = .ok (.isub, 1) := by decide +kernel
theorem dX3_addClock_76 : decode cX3_addClock 76 = .ok (.ireturn, 1) := by decide +kernel
theorem dX3_windClock_0 : decode cX3_windClock 0 = .ok (.aload_n 0, 1) := by decide +kernel
theorem dX3_windClock_1 : decode cX3_windClock 1 = .ok (.iload_n 1, 1) := by decide +kernel
theorem dX3_windClock_2 : decode cX3_windClock 2 = .ok (.invokevirtual 58, 3) := by decide +kernel
theorem dX3_windClock_5 : decode cX3_windClock 5 = .ok (.astore_n 2, 1) := by decide +kernel
theorem dX3_windClock_6 : decode cX3_windClock 6 = .ok (.aload_n 2, 1) := by decide +kernel
theorem dX3_windClock_7 : decode cX3_windClock 7 = .ok (.ifnonnull 6, 3) := by decide +kernel
theorem dX3_windClock_10 : decode cX3_windClock 10 = .ok (.ldc 49, 2) := by decide +kernel
theorem dX3_windClock_12 : decode cX3_windClock 12 = .ok (.ireturn, 1) := by decide +kernel
theorem dX3_windClock_13 : decode cX3_windClock 13 = .ok (.aload_n 0, 1) := by decide +kernel
theorem dX3_windClock_14 : decode cX3_windClock 14 = .ok (.aload_n 2, 1) := by decide +kernel
theorem dX3_windClock_15 : decode cX3_windClock 15 = .ok (.invokevirtual 55, 3) := by decide +kernel
theorem dX3_windClock_18 : decode cX3_windClock 18 = .ok (.aload_n 2, 1) := by decide +kernel
theorem dX3_windClock_19 : decode cX3_windClock 19 = .ok (.dup, 1) := by decide +kernel
theorem dX3_windClock_20 : decode cX3_windClock 20 = .ok (.getfield 62, 3) := by decide +kernel
theorem dX3_windClock_23 : decode cX3_windClock 23 = .ok (.iconst 1, 1) := by decide +kernel
theorem dX3_windClock_24 : decode cX3_windClock 24 = .ok (.iadd, 1) := by decide +kernel
theorem dX3_windClock_25 : decode cX3_windClock 25 = .ok (.putfield 62, 3) := by decide +kernel
theorem dX3_windClock_28 : decode cX3_windClock 28 = .ok (.aload_n 2, 1) := by decide +kernel
theorem dX3_windClock_29 : decode cX3_windClock 29 = .ok (.getfield 65, 3) := by decide +kernel
theorem dX3_windClock_32 : decode cX3_windClock 32 = .ok (.ireturn, 1) := by decide +kernel
theorem dX3_beginGap_0 : decode cX3_beginGap 0 = .ok (.aload_n 1, 1) := by decide +kernel
theorem dX3_beginGap_1 : decode cX3_beginGap 1 = .ok (.aload_n 1, 1) := by decide +kernel
theorem dX3_beginGap_2 : decode cX3_beginGap 2 = .ok (.getfield 68, 3) := by decide +kernel
theorem dX3_beginGap_5 : decode cX3_beginGap 5 = .ok (.iconst 1, 1) := by decide +kernel
theorem dX3_beginGap_6 : decode cX3_beginGap 6 = .ok (.if_icmp .ne 17, 3) := by decide +kernel
theorem dX3_beginGap_9 : decode cX3_beginGap 9 = .ok (.aload_n 0, 1) := by decide +kernel
theorem dX3_beginGap_10 : decode cX3_beginGap 10 = .ok (.aload_n 1, 1) := by decide +kernel
theorem dX3_beginGap_11 : decode cX3_beginGap 11 = .ok (.getfield 71, 3) := by decide +kernel
theorem dX3_beginGap_14 : decode cX3_beginGap 14 = .ok (.getfield 75, 3) := by decide +kernel
theorem dX3_beginGap_17 : decode cX3_beginGap 17 = .ok (.invokevirtual 80, 3) := by decide +kernel
theorem dX3_beginGap_20 : decode cX3_beginGap 20 = .ok (.goto 7, 3) := by decide +kernel
theorem dX3_beginGap_23 : decode cX3_beginGap 23 = .ok (.aload_n 1, 1) := by decide +kernel
theorem dX3_beginGap_24 : decode cX3_beginGap 24 = .ok (.invokevirtual 84, 3) := by decide +kernel
theorem dX3_beginGap_27 : decode cX3_beginGap 27 = .ok (.invokevirtual 88, 3) := by decide +kernel
theorem dX3_beginGap_30 : decode cX3_beginGap 30 = .ok (.return_, 1) := by decide +kernel
theorem dX3_draw_0 : decode cX3_draw 0 = .ok (.aload_n 0, 1) := by decide +kernel
theorem dX3_draw_1 : decode cX3_draw 1 = .ok (.aload_n 0, 1) := by decide +kernel
theorem dX3_draw_2 : decode cX3_draw 2 = .ok (.getfield 23, 3) := by decide +kernel
theorem dX3_draw_5 : decode cX3_draw 5 = .ok (.sipush 421, 3) := by decide +kernel
theorem dX3_draw_8 : decode cX3_draw 8 = .ok (.imul, 1) := by decide +kernel
theorem dX3_draw_9 : decode cX3_draw 9 = .ok (.sipush 1663, 3) := by decide +kernel
theorem dX3_draw_12 : decode cX3_draw 12 = .ok (.iadd, 1) := by decide +kernel
theorem dX3_draw_13 : decode cX3_draw 13 = .ok (.sipush 10000, 3) := by decide +kernel
theorem dX3_draw_16 : decode cX3_draw 16 = .ok (.irem, 1) := by decide +kernel
theorem dX3_draw_17 : decode cX3_draw 17 = .ok (.putfield 23, 3) := by decide +kernel
theorem dX3_draw_20 : decode cX3_draw 20 = .ok (.iload_n 1, 1) := by decide +kernel
theorem dX3_draw_21 : decode cX3_draw 21 = .ok (.ifCond .le 12, 3) := by decide +kernel
theorem dX3_draw_24 : decode cX3_draw 24 = .ok (.aload_n 0, 1) := by decide +kernel
theorem dX3_draw_25 : decode cX3_draw 25 = .ok (.getfield 23, 3) := by decide +kernel
theorem dX3_draw_28 : decode cX3_draw 28 = .ok (.iload_n 1, 1) := by decide +kernel
theorem dX3_draw_29 : decode cX3_draw 29 = .ok (.irem, 1) := by decide +kernel
theorem dX3_draw_30 : decode cX3_draw 30 = .ok (.goto 4, 3) := by decide +kernel
theorem dX3_draw_33 : decode cX3_draw 33 = .ok (.iconst 0, 1) := by decide +kernel
theorem dX3_draw_34 : decode cX3_draw 34 = .ok (.ireturn, 1) := by decide +kernel
theorem dX3_endTicks_0 : decode cX3_endTicks 0 = .ok (.iload_n 1, 1) := by decide +kernel
theorem dX3_endTicks_1 : decode cX3_endTicks 1 = .ok (.iconst 1, 1) := by decide +kernel
theorem dX3_endTicks_2 : decode cX3_endTicks 2 = .ok (.if_icmp .lt 10, 3) := by decide +kernel
theorem dX3_endTicks_5 : decode cX3_endTicks 5 = .ok (.iload_n 1, 1) := by decide +kernel
theorem dX3_endTicks_6 : decode cX3_endTicks 6 = .ok (.sipush 200, 3) := by decide +kernel
theorem dX3_endTicks_9 : decode cX3_endTicks 9 = .ok (.if_icmp .le 6, 3) := by decide +kernel
theorem dX3_endTicks_12 : decode cX3_endTicks 12 = .ok (.ldc 49, 2) := by decide +kernel
theorem dX3_endTicks_14 : decode cX3_endTicks 14 = .ok (.ireturn, 1) := by decide +kernel
theorem dX3_endTicks_15 : decode cX3_endTicks 15 = .ok (.aload_n 0, 1) := by decide +kernel
theorem dX3_endTicks_16 : decode cX3_endTicks 16 = .ok (.getfield 42, 3) := by decide +kernel
theorem dX3_endTicks_19 : decode cX3_endTicks 19 = .ok (.iload_n 1, 1) := by decide +kernel
theorem dX3_endTicks_20 : decode cX3_endTicks 20 = .ok (.iadd, 1) := by decide +kernel
theorem dX3_endTicks_21 : decode cX3_endTicks 21 = .ok (.ldc 92, 2) := by decide +kernel
theorem dX3_endTicks_23 : decode cX3_endTicks 23 = .ok (.if_icmp .le 6, 3) := by decide +kernel
theorem dX3_endTicks_26 : decode cX3_endTicks 26 = .ok (.ldc 50, 2) := by decide +kernel
theorem dX3_endTicks_28 : decode cX3_endTicks 28 = .ok (.ireturn, 1) := by decide +kernel
theorem dX3_endTicks_29 : decode cX3_endTicks 29 = .ok (.iconst 0, 1) := by decide +kernel
theorem dX3_endTicks_30 : decode cX3_endTicks 30 = .ok (.istore_n 2, 1) := by decide +kernel
theorem dX3_endTicks_31 : decode cX3_endTicks 31 = .ok (.iconst 0, 1) := by decide +kernel
theorem dX3_endTicks_32 : decode cX3_endTicks 32 = .ok (.istore_n 3, 1) := by decide +kernel
theorem dX3_endTicks_33 : decode cX3_endTicks 33 = .ok (.iload_n 3, 1) := by decide +kernel
theorem dX3_endTicks_34 : decode cX3_endTicks 34 = .ok (.iload_n 1, 1) := by decide +kernel
theorem dX3_endTicks_35 : decode cX3_endTicks 35 = .ok (.if_icmp .ge 16, 3) := by decide +kernel
theorem dX3_endTicks_38 : decode cX3_endTicks 38 = .ok (.iload_n 2, 1) := by decide +kernel
theorem dX3_endTicks_39 : decode cX3_endTicks 39 = .ok (.aload_n 0, 1) := by decide +kernel
theorem dX3_endTicks_40 : decode cX3_endTicks 40 = .ok (.invokevirtual 93, 3) := by decide +kernel
theorem dX3_endTicks_43 : decode cX3_endTicks 43 = .ok (.iadd, 1) := by decide +kernel
theorem dX3_endTicks_44 : decode cX3_endTicks 44 = .ok (.istore_n 2, 1) := by decide +kernel
theorem dX3_endTicks_45 : decode cX3_endTicks 45 = .ok (.iinc 3 1, 3) := by decide +kernel
theorem dX3_endTicks_48 : decode cX3_endTicks 48 = .ok (.goto (-15), 3) := by decide +kernel
theorem dX3_endTicks_51 : decode cX3_endTicks 51 = .ok (.iload_n 2, 1) := by decide +kernel
theorem dX3_endTicks_52 : decode cX3_endTicks 52 = .ok (.ireturn, 1) := by decide +kernel
theorem dX3_endTick_0 : decode cX3_endTick 0 = .ok (.aload_n 0, 1) := by decide +kernel
theorem dX3_endTick_1 : decode cX3_endTick 1 = .ok (.dup, 1) := by decide +kernel
theorem dX3_endTick_2 : decode cX3_endTick 2 = .ok (.getfield 42, 3) := by decide +kernel
theorem dX3_endTick_5 : decode cX3_endTick 5 = .ok (.iconst 1, 1) := by decide +kernel
theorem dX3_endTick_6 : decode cX3_endTick 6 = .ok (.iadd, 1) := by decide +kernel
theorem dX3_endTick_7 : decode cX3_endTick 7 = .ok (.putfield 42, 3) := by decide +kernel
theorem dX3_endTick_10 : decode cX3_endTick 10 = .ok (.iconst 0, 1) := by decide +kernel
theorem dX3_endTick_11 : decode cX3_endTick 11 = .ok (.istore_n 1, 1) := by decide +kernel
theorem dX3_endTick_12 : decode cX3_endTick 12 = .ok (.iconst 0, 1) := by decide +kernel
theorem dX3_endTick_13 : decode cX3_endTick 13 = .ok (.istore_n 2, 1) := by decide +kernel
theorem dX3_endTick_14 : decode cX3_endTick 14 = .ok (.iload_n 2, 1) := by decide +kernel
theorem dX3_endTick_15 : decode cX3_endTick 15 = .ok (.aload_n 0, 1) := by decide +kernel
theorem dX3_endTick_16 : decode cX3_endTick 16 = .ok (.getfield 29, 3) := by decide +kernel
theorem dX3_endTick_19 : decode cX3_endTick 19 = .ok (.if_icmp .ge 46, 3) := by decide +kernel
theorem dX3_endTick_22 : decode cX3_endTick 22 = .ok (.iload_n 2, 1) := by decide +kernel
theorem dX3_endTick_23 : decode cX3_endTick 23 = .ok (.aload_n 0, 1) := by decide +kernel
theorem dX3_endTick_24 : decode cX3_endTick 24 = .ok (.getfield 11, 3) := by decide +kernel
theorem dX3_endTick_27 : decode cX3_endTick 27 = .ok (.arraylength, 1) := by decide +kernel
theorem dX3_endTick_28 : decode cX3_endTick 28 = .ok (.if_icmp .ge 37, 3) := by decide +kernel
theorem dX3_endTick_31 : decode cX3_endTick 31 = .ok (.aload_n 0, 1) := by decide +kernel
theorem dX3_endTick_32 : decode cX3_endTick 32 = .ok (.getfield 11, 3) := by decide +kernel
theorem dX3_endTick_35 : decode cX3_endTick 35 = .ok (.iload_n 2, 1) := by decide +kernel
theorem dX3_endTick_36 : decode cX3_endTick 36 = .ok (.aaload, 1) := by decide +kernel
theorem dX3_endTick_37 : decode cX3_endTick 37 = .ok (.invokevirtual 96, 3) := by decide +kernel
theorem dX3_endTick_40 : decode cX3_endTick 40 = .ok (.ifCond .eq 19, 3) := by decide +kernel
theorem dX3_endTick_43 : decode cX3_endTick 43 = .ok (.iload_n 1, 1) := by decide +kernel
theorem dX3_endTick_44 : decode cX3_endTick 44 = .ok (.iconst 1, 1) := by decide +kernel
theorem dX3_endTick_45 : decode cX3_endTick 45 = .ok (.iload_n 2, 1) := by decide +kernel
theorem dX3_endTick_46 : decode cX3_endTick 46 = .ok (.ishl, 1) := by decide +kernel
theorem dX3_endTick_47 : decode cX3_endTick 47 = .ok (.ior, 1) := by decide +kernel
theorem dX3_endTick_48 : decode cX3_endTick 48 = .ok (.istore_n 1, 1) := by decide +kernel
theorem dX3_endTick_49 : decode cX3_endTick 49 = .ok (.aload_n 0, 1) := by decide +kernel
theorem dX3_endTick_50 : decode cX3_endTick 50 = .ok (.aload_n 0, 1) := by decide +kernel
theorem dX3_endTick_51 : decode cX3_endTick 51 = .ok (.getfield 11, 3) := by decide +kernel
theorem dX3_endTick_54 : decode cX3_endTick 54 = .ok (.iload_n 2, 1) := by decide +kernel
theorem dX3_endTick_55 : decode cX3_endTick 55 = .ok (.aaload, 1) := by decide +kernel
theorem dX3_endTick_56 : decode cX3_endTick 56 = .ok (.invokevirtual 55, 3) := by decide +kernel
theorem dX3_endTick_59 : decode cX3_endTick 59 = .ok (.iinc 2 1, 3) := by decide +kernel
theorem dX3_endTick_62 : decode cX3_endTick 62 = .ok (.goto (-48), 3) := by decide +kernel
theorem dX3_endTick_65 : decode cX3_endTick 65 = .ok (.iconst 0, 1) := by decide +kernel
theorem dX3_endTick_66 : decode cX3_endTick 66 = .ok (.istore_n 2, 1) := by decide +kernel
theorem dX3_endTick_67 : decode cX3_endTick 67 = .ok (.iload_n 2, 1) := by decide +kernel
theorem dX3_endTick_68 : decode cX3_endTick 68 = .ok (.aload_n 0, 1) := by decide +kernel
theorem dX3_endTick_69 : decode cX3_endTick 69 = .ok (.getfield 36, 3) := by decide +kernel
theorem dX3_endTick_72 : decode cX3_endTick 72 = .ok (.if_icmp .ge 28, 3) := by decide +kernel
theorem dX3_endTick_75 : decode cX3_endTick 75 = .ok (.iload_n 2, 1) := by decide +kernel
theorem dX3_endTick_76 : decode cX3_endTick 76 = .ok (.aload_n 0, 1) := by decide +kernel
theorem dX3_endTick_77 : decode cX3_endTick 77 = .ok (.getfield 19, 3) := by decide +kernel
theorem dX3_endTick_80 : decode cX3_endTick 80 = .ok (.arraylength, 1) := by decide +kernel
theorem dX3_endTick_81 : decode cX3_endTick 81 = .ok (.if_icmp .ge 19, 3) := by decide +kernel
theorem dX3_endTick_84 : decode cX3_endTick 84 = .ok (.aload_n 0, 1) := by decide +kernel
theorem dX3_endTick_85 : decode cX3_endTick 85 = .ok (.getfield 19, 3) := by decide +kernel
theorem dX3_endTick_88 : decode cX3_endTick 88 = .ok (.iload_n 2, 1) := by decide +kernel
theorem dX3_endTick_89 : decode cX3_endTick 89 = .ok (.aaload, 1) := by decide +kernel
theorem dX3_endTick_90 : decode cX3_endTick 90 = .ok (.iload_n 1, 1) := by decide +kernel
theorem dX3_endTick_91 : decode cX3_endTick 91 = .ok (.invokevirtual 100, 3) := by decide +kernel
theorem dX3_endTick_94 : decode cX3_endTick 94 = .ok (.iinc 2 1, 3) := by decide +kernel
theorem dX3_endTick_97 : decode cX3_endTick 97 = .ok (.goto (-30), 3) := by decide +kernel
theorem dX3_endTick_100 : decode cX3_endTick 100 = .ok (.iload_n 1, 1) := by decide +kernel
theorem dX3_endTick_101 : decode cX3_endTick 101 = .ok (.invokestatic 102, 3) := by decide +kernel
theorem dX3_endTick_104 : decode cX3_endTick 104 = .ok (.ireturn, 1) := by decide +kernel
theorem dX3_addPassenger_0 : decode cX3_addPassenger 0 = .ok (.aload_n 0, 1) := by decide +kernel
theorem dX3_addPassenger_1 : decode cX3_addPassenger 1 = .ok (.iload_n 1, 1) := by decide +kernel
theorem dX3_addPassenger_2 : decode cX3_addPassenger 2 = .ok (.invokevirtual 58, 3) := by decide +kernel
theorem dX3_addPassenger_5 : decode cX3_addPassenger 5 = .ok (.astore_n 2, 1) := by decide +kernel
theorem dX3_addPassenger_6 : decode cX3_addPassenger 6 = .ok (.aload_n 2, 1) := by decide +kernel
theorem dX3_addPassenger_7 : decode cX3_addPassenger 7 = .ok (.ifnonnull 6, 3) := by decide +kernel
theorem dX3_addPassenger_10 : decode cX3_addPassenger 10 = .ok (.ldc 49, 2) := by decide +kernel
theorem dX3_addPassenger_12 : decode cX3_addPassenger 12 = .ok (.ireturn, 1) := by decide +kernel
theorem dX3_addPassenger_13 : decode cX3_addPassenger 13 = .ok (.aload_n 2, 1) := by decide +kernel
theorem dX3_addPassenger_14 : decode cX3_addPassenger 14 = .ok (.dup, 1) := by decide +kernel
theorem dX3_addPassenger_15 : decode cX3_addPassenger 15 = .ok (.getfield 107, 3) := by decide +kernel
theorem dX3_addPassenger_18 : decode cX3_addPassenger 18 = .ok (.iconst 1, 1) := by decide +kernel
theorem dX3_addPassenger_19 : decode cX3_addPassenger 19 = .ok (.iadd, 1) := by decide +kernel
theorem dX3_addPassenger_20 : decode cX3_addPassenger 20 = .ok (.putfield 107, 3) := by decide +kernel
theorem dX3_addPassenger_23 : decode cX3_addPassenger 23 = .ok (.aload_n 2, 1) := by decide +kernel
theorem dX3_addPassenger_24 : decode cX3_addPassenger 24 = .ok (.dup, 1) := by decide +kernel
theorem dX3_addPassenger_25 : decode cX3_addPassenger 25 = .ok (.getfield 110, 3) := by decide +kernel
theorem dX3_addPassenger_28 : decode cX3_addPassenger 28 = .ok (.aload_n 2, 1) := by decide +kernel
theorem dX3_addPassenger_29 : decode cX3_addPassenger 29 = .ok (.getfield 113, 3) := by decide +kernel
theorem dX3_addPassenger_32 : decode cX3_addPassenger 32 = .ok (.iadd, 1) := by decide +kernel
theorem dX3_addPassenger_33 : decode cX3_addPassenger 33 = .ok (.putfield 110, 3) := by decide +kernel
theorem dX3_addPassenger_36 : decode cX3_addPassenger 36 = .ok (.aload_n 2, 1) := by decide +kernel
theorem dX3_addPassenger_37 : decode cX3_addPassenger 37 = .ok (.getfield 113, 3) := by decide +kernel
theorem dX3_addPassenger_40 : decode cX3_addPassenger 40 = .ok (.ireturn, 1) := by decide +kernel
theorem dX3_addGroup_0 : decode cX3_addGroup 0 = .ok (.iload_n 1, 1) := by decide +kernel
theorem dX3_addGroup_1 : decode cX3_addGroup 1 = .ok (.invokestatic 116, 3) := by decide +kernel
theorem dX3_addGroup_4 : decode cX3_addGroup 4 = .ok (.ifCond .ne 6, 3) := by decide +kernel
theorem dX3_addGroup_7 : decode cX3_addGroup 7 = .ok (.ldc 49, 2) := by decide +kernel
theorem dX3_addGroup_9 : decode cX3_addGroup 9 = .ok (.ireturn, 1) := by decide +kernel
theorem dX3_addGroup_10 : decode cX3_addGroup 10 = .ok (.aload_n 0, 1) := by decide +kernel
theorem dX3_addGroup_11 : decode cX3_addGroup 11 = .ok (.getfield 36, 3) := by decide +kernel
theorem dX3_addGroup_14 : decode cX3_addGroup 14 = .ok (.aload_n 0, 1) := by decide +kernel
theorem dX3_addGroup_15 : decode cX3_addGroup 15 = .ok (.getfield 19, 3) := by decide +kernel
theorem dX3_addGroup_18 : decode cX3_addGroup 18 = .ok (.arraylength, 1) := by decide +kernel
theorem dX3_addGroup_19 : decode cX3_addGroup 19 = .ok (.if_icmp .lt 6, 3) := by decide +kernel
theorem dX3_addGroup_22 : decode cX3_addGroup 22 = .ok (.ldc 50, 2) := by decide +kernel
theorem dX3_addGroup_24 : decode cX3_addGroup 24 = .ok (.ireturn, 1) := by decide +kernel
theorem dX3_addGroup_25 : decode cX3_addGroup 25 = .ok (.aload_n 0, 1) := by decide +kernel
theorem dX3_addGroup_26 : decode cX3_addGroup 26 = .ok (.getfield 19, 3) := by decide +kernel
theorem dX3_addGroup_29 : decode cX3_addGroup 29 = .ok (.aload_n 0, 1) := by decide +kernel
theorem dX3_addGroup_30 : decode cX3_addGroup 30 = .ok (.getfield 36, 3) := by decide +kernel
theorem dX3_addGroup_33 : decode cX3_addGroup 33 = .ok (.aaload, 1) := by decide +kernel
theorem dX3_addGroup_34 : decode cX3_addGroup 34 = .ok (.iload_n 1, 1) := by decide +kernel
theorem dX3_addGroup_35 : decode cX3_addGroup 35 = .ok (.invokevirtual 120, 3) := by decide +kernel
theorem dX3_addGroup_38 : decode cX3_addGroup 38 = .ok (.aload_n 0, 1) := by decide +kernel
theorem dX3_addGroup_39 : decode cX3_addGroup 39 = .ok (.dup, 1) := by decide +kernel
theorem dX3_addGroup_40 : decode cX3_addGroup 40 = .ok (.getfield 36, 3) := by decide +kernel
theorem dX3_addGroup_43 : decode cX3_addGroup 43 = .ok (.iconst 1, 1) := by decide +kernel
theorem dX3_addGroup_44 : decode cX3_addGroup 44 = .ok (.iadd, 1) := by decide +kernel
theorem dX3_addGroup_45 : decode cX3_addGroup 45 = .ok (.putfield 36, 3) := by decide +kernel
theorem dX3_addGroup_48 : decode cX3_addGroup 48 = .ok (.aload_n 0, 1) := by decide +kernel
theorem dX3_addGroup_49 : decode cX3_addGroup 49 = .ok (.getfield 36, 3) := by decide +kernel
theorem dX3_addGroup_52 : decode cX3_addGroup 52 = .ok (.iconst 1, 1) := by decide +kernel
theorem dX3_addGroup_53 : decode cX3_addGroup 53 = .ok (.isub, 1) := by decide +kernel
theorem dX3_addGroup_54 : decode cX3_addGroup 54 = .ok (.ireturn, 1) := by decide +kernel
theorem dX3_joinGroup_0 : decode cX3_joinGroup 0 = .ok (.aload_n 0, 1) := by decide +kernel
theorem dX3_joinGroup_1 : decode cX3_joinGroup 1 = .ok (.iload_n 1, 1) := by decide +kernel
theorem dX3_joinGroup_2 : decode cX3_joinGroup 2 = .ok (.invokevirtual 122, 3) := by decide +kernel
theorem dX3_joinGroup_5 : decode cX3_joinGroup 5 = .ok (.astore_n 3, 1) := by decide +kernel
theorem dX3_joinGroup_6 : decode cX3_joinGroup 6 = .ok (.aload_n 0, 1) := by decide +kernel
theorem dX3_joinGroup_7 : decode cX3_joinGroup 7 = .ok (.iload_n 2, 1) := by decide +kernel
theorem dX3_joinGroup_8 : decode cX3_joinGroup 8 = .ok (.invokevirtual 58, 3) := by decide +kernel
theorem dX3_joinGroup_11 : decode cX3_joinGroup 11 = .ok (.astore 4, 2) := by decide +kernel
theorem dX3_joinGroup_13 : decode cX3_joinGroup 13 = .ok (.aload_n 3, 1) := by decide +kernel
theorem dX3_joinGroup_14 : decode cX3_joinGroup 14 = .ok (.ifnull 8, 3) := by decide +kernel
theorem dX3_joinGroup_17 : decode cX3_joinGroup 17 = .ok (.aload 4, 2) := by decide +kernel
theorem dX3_joinGroup_19 : decode cX3_joinGroup 19 = .ok (.ifnonnull 6, 3) := by decide +kernel
theorem dX3_joinGroup_22 : decode cX3_joinGroup 22 = .ok (.ldc 49, 2) := by decide +kernel
theorem dX3_joinGroup_24 : decode cX3_joinGroup 24 = .ok (.ireturn, 1) := by decide +kernel
theorem dX3_joinGroup_25 : decode cX3_joinGroup 25 = .ok (.aload 4, 2) := by decide +kernel
theorem dX3_joinGroup_27 : decode cX3_joinGroup 27 = .ok (.getfield 68, 3) := by decide +kernel
theorem dX3_joinGroup_30 : decode cX3_joinGroup 30 = .ok (.aload_n 3, 1) := by decide +kernel
theorem dX3_joinGroup_31 : decode cX3_joinGroup 31 = .ok (.getfield 126, 3) := by decide +kernel
theorem dX3_joinGroup_34 : decode cX3_joinGroup 34 = .ok (.if_icmp .ne 11, 3) := by decide +kernel
theorem dX3_joinGroup_37 : decode cX3_joinGroup 37 = .ok (.aload_n 3, 1) := by decide +kernel
theorem dX3_joinGroup_38 : decode cX3_joinGroup 38 = .ok (.iload_n 2, 1) := by decide +kernel
theorem dX3_joinGroup_39 : decode cX3_joinGroup 39 = .ok (.invokevirtual 127, 3) := by decide +kernel
theorem dX3_joinGroup_42 : decode cX3_joinGroup 42 = .ok (.ifCond .eq 6, 3) := by decide +kernel
theorem dX3_joinGroup_45 : decode cX3_joinGroup 45 = .ok (.ldc 130, 2) := by decide +kernel
theorem dX3_joinGroup_47 : decode cX3_joinGroup 47 = .ok (.ireturn, 1) := by decide +kernel
theorem dX3_joinGroup_48 : decode cX3_joinGroup 48 = .ok (.aload_n 3, 1) := by decide +kernel
theorem dX3_joinGroup_49 : decode cX3_joinGroup 49 = .ok (.invokevirtual 131, 3) := by decide +kernel
theorem dX3_joinGroup_52 : decode cX3_joinGroup 52 = .ok (.iconst 4, 1) := by decide +kernel
theorem dX3_joinGroup_53 : decode cX3_joinGroup 53 = .ok (.if_icmp .lt 6, 3) := by decide +kernel
theorem dX3_joinGroup_56 : decode cX3_joinGroup 56 = .ok (.ldc 50, 2) := by decide +kernel
theorem dX3_joinGroup_58 : decode cX3_joinGroup 58 = .ok (.ireturn, 1) := by decide +kernel
theorem dX3_joinGroup_59 : decode cX3_joinGroup 59 = .ok (.aload_n 3, 1) := by decide +kernel
theorem dX3_joinGroup_60 : decode cX3_joinGroup 60 = .ok (.dup, 1) := by decide +kernel
theorem dX3_joinGroup_61 : decode cX3_joinGroup 61 = .ok (.getfield 134, 3) := by decide +kernel
theorem dX3_joinGroup_64 : decode cX3_joinGroup 64 = .ok (.iconst 1, 1) := by decide +kernel
theorem dX3_joinGroup_65 : decode cX3_joinGroup 65 = .ok (.iload_n 2, 1) := by decide +kernel
theorem dX3_joinGroup_66 : decode cX3_joinGroup 66 = .ok (.ishl, 1) := by decide +kernel
theorem dX3_joinGroup_67 : decode cX3_joinGroup 67 = .ok (.ior, 1) := by decide +kernel
theorem dX3_joinGroup_68 : decode cX3_joinGroup 68 = .ok (.putfield 134, 3) := by decide +kernel
theorem dX3_joinGroup_71 : decode cX3_joinGroup 71 = .ok (.aload_n 3, 1) := by decide +kernel
theorem dX3_joinGroup_72 : decode cX3_joinGroup 72 = .ok (.invokevirtual 131, 3) := by decide +kernel
theorem dX3_joinGroup_75 : decode cX3_joinGroup 75 = .ok (.ireturn, 1) := by decide +kernel
theorem dX3_leaveGroup_0 : decode cX3_leaveGroup 0 = .ok (.aload_n 0, 1) := by decide +kernel
theorem dX3_leaveGroup_1 : decode cX3_leaveGroup 1 = .ok (.iload_n 1, 1) := by decide +kernel
theorem dX3_leaveGroup_2 : decode cX3_leaveGroup 2 = .ok (.invokevirtual 122, 3) := by decide +kernel
theorem dX3_leaveGroup_5 : decode cX3_leaveGroup 5 = .ok (.astore_n 3, 1) := by decide +kernel
theorem dX3_leaveGroup_6 : decode cX3_leaveGroup 6 = .ok (.aload_n 3, 1) := by decide +kernel
theorem dX3_leaveGroup_7 : decode cX3_leaveGroup 7 = .ok (.ifnull 11, 3) := by decide +kernel
theorem dX3_leaveGroup_10 : decode cX3_leaveGroup 10 = .ok (.aload_n 0, 1) := by decide +kernel
theorem dX3_leaveGroup_11 : decode cX3_leaveGroup 11 = .ok (.iload_n 2, 1) := by decide +kernel
theorem dX3_leaveGroup_12 : decode cX3_leaveGroup 12 = .ok (.invokevirtual 58, 3) := by decide +kernel
theorem dX3_leaveGroup_15 : decode cX3_leaveGroup 15 = .ok (.ifnonnull 6, 3) := by decide +kernel
theorem dX3_leaveGroup_18 : decode cX3_leaveGroup 18 = .ok (.ldc 49, 2) := by decide +kernel
theorem dX3_leaveGroup_20 : decode cX3_leaveGroup 20 = .ok (.ireturn, 1) := by decide +kernel
theorem dX3_leaveGroup_21 : decode cX3_leaveGroup 21 = .ok (.aload_n 3, 1) := by decide +kernel
theorem dX3_leaveGroup_22 : decode cX3_leaveGroup 22 = .ok (.iload_n 2, 1) := by decide +kernel
theorem dX3_leaveGroup_23 : decode cX3_leaveGroup 23 = .ok (.invokevirtual 127, 3) := by decide +kernel
theorem dX3_leaveGroup_26 : decode cX3_leaveGroup 26 = .ok (.ifCond .ne 6, 3) := by decide +kernel
theorem dX3_leaveGroup_29 : decode cX3_leaveGroup 29 = .ok (.ldc 130, 2) := by decide +kernel
theorem dX3_leaveGroup_31 : decode cX3_leaveGroup 31 = .ok (.ireturn, 1) := by decide +kernel
theorem dX3_leaveGroup_32 : decode cX3_leaveGroup 32 = .ok (.aload_n 3, 1) := by decide +kernel
theorem dX3_leaveGroup_33 : decode cX3_leaveGroup 33 = .ok (.dup, 1) := by decide +kernel
theorem dX3_leaveGroup_34 : decode cX3_leaveGroup 34 = .ok (.getfield 134, 3) := by decide +kernel
theorem dX3_leaveGroup_37 : decode cX3_leaveGroup 37 = .ok (.iconst 1, 1) := by decide +kernel
theorem dX3_leaveGroup_38 : decode cX3_leaveGroup 38 = .ok (.iload_n 2, 1) := by decide +kernel
theorem dX3_leaveGroup_39 : decode cX3_leaveGroup 39 = .ok (.ishl, 1) := by decide +kernel
theorem dX3_leaveGroup_40 : decode cX3_leaveGroup 40 = .ok (.iconst (-1), 1) := by decide +kernel
theorem dX3_leaveGroup_41 : decode cX3_leaveGroup 41 = .ok (.ixor, 1) := by decide +kernel
theorem dX3_leaveGroup_42 : decode cX3_leaveGroup 42 = .ok (.iand, 1) := by decide +kernel
theorem dX3_leaveGroup_43 : decode cX3_leaveGroup 43 = .ok (.putfield 134, 3) := by decide +kernel
theorem dX3_leaveGroup_46 : decode cX3_leaveGroup 46 = .ok (.aload_n 3, 1) := by decide +kernel
theorem dX3_leaveGroup_47 : decode cX3_leaveGroup 47 = .ok (.invokevirtual 131, 3) := by decide +kernel
theorem dX3_leaveGroup_50 : decode cX3_leaveGroup 50 = .ok (.ireturn, 1) := by decide +kernel
theorem dX3_leastRest_0 : decode cX3_leastRest 0 = .ok (.ldc 137, 2) := by decide +kernel
theorem dX3_leastRest_2 : decode cX3_leastRest 2 = .ok (.istore_n 2, 1) := by decide +kernel
theorem dX3_leastRest_3 : decode cX3_leastRest 3 = .ok (.iconst 0, 1) := by decide +kernel
theorem dX3_leastRest_4 : decode cX3_leastRest 4 = .ok (.istore_n 3, 1) := by decide +kernel
theorem dX3_leastRest_5 : decode cX3_leastRest 5 = .ok (.iload_n 3, 1) := by decide +kernel
theorem dX3_leastRest_6 : decode cX3_leastRest 6 = .ok (.aload_n 0, 1) := by decide +kernel
theorem dX3_leastRest_7 : decode cX3_leastRest 7 = .ok (.getfield 29, 3) := by decide +kernel
theorem dX3_leastRest_10 : decode cX3_leastRest 10 = .ok (.if_icmp .ge 67, 3) := by decide +kernel
theorem dX3_leastRest_13 : decode cX3_leastRest 13 = .ok (.iload_n 3, 1) := by decide +kernel
theorem dX3_leastRest_14 : decode cX3_leastRest 14 = .ok (.aload_n 0, 1) := by decide +kernel
theorem dX3_leastRest_15 : decode cX3_leastRest 15 = .ok (.getfield 11, 3) := by decide +kernel
theorem dX3_leastRest_18 : decode cX3_leastRest 18 = .ok (.arraylength, 1) := by decide +kernel
theorem dX3_leastRest_19 : decode cX3_leastRest 19 = .ok (.if_icmp .ge 58, 3) := by decide +kernel
theorem dX3_leastRest_22 : decode cX3_leastRest 22 = .ok (.iload_n 1, 1) := by decide +kernel
theorem dX3_leastRest_23 : decode cX3_leastRest 23 = .ok (.iconst 1, 1) := by decide +kernel
theorem dX3_leastRest_24 : decode cX3_leastRest 24 = .ok (.iload_n 3, 1) := by decide +kernel
theorem dX3_leastRest_25 : decode cX3_leastRest 25 = .ok (.ishl, 1) := by decide +kernel
theorem dX3_leastRest_26 : decode cX3_leastRest 26 = .ok (.iand, 1) := by decide +kernel
theorem dX3_leastRest_27 : decode cX3_leastRest 27 = .ok (.ifCond .eq 7, 3) := by decide +kernel
theorem dX3_leastRest_30 : decode cX3_leastRest 30 = .ok (.iconst 1, 1) := by decide +kernel
theorem dX3_leastRest_31 : decode cX3_leastRest 31 = .ok (.goto 4, 3) := by decide +kernel
theorem dX3_leastRest_34 : decode cX3_leastRest 34 = .ok (.iconst 0, 1) := by decide +kernel
theorem dX3_leastRest_35 : decode cX3_leastRest 35 = .ok (.istore 4, 2) := by decide +kernel
theorem dX3_leastRest_37 : decode cX3_leastRest 37 = .ok (.iload 4, 2) := by decide +kernel
theorem dX3_leastRest_39 : decode cX3_leastRest 39 = .ok (.ifCond .eq 32, 3) := by decide +kernel
theorem dX3_leastRest_42 : decode cX3_leastRest 42 = .ok (.iload_n 2, 1) := by decide +kernel
theorem dX3_leastRest_43 : decode cX3_leastRest 43 = .ok (.ldc 137, 2) := by decide +kernel
theorem dX3_leastRest_45 : decode cX3_leastRest 45 = .ok (.if_icmp .eq 16, 3) := by decide +kernel
theorem dX3_leastRest_48 : decode cX3_leastRest 48 = .ok (.aload_n 0, 1) := by decide +kernel
theorem dX3_leastRest_49 : decode cX3_leastRest 49 = .ok (.getfield 11, 3) := by decide +kernel
theorem dX3_leastRest_52 : decode cX3_leastRest 52 = .ok (.iload_n 3, 1) := by decide +kernel
theorem dX3_leastRest_53 : decode cX3_leastRest 53 = .ok (.aaload, 1) := by decide +kernel
theorem dX3_leastRest_54 : decode cX3_leastRest 54 = .ok (.getfield 113, 3) := by decide +kernel
theorem dX3_leastRest_57 : decode cX3_leastRest 57 = .ok (.iload_n 2, 1) := by decide +kernel
theorem dX3_leastRest_58 : decode cX3_leastRest 58 = .ok (.if_icmp .ge 13, 3) := by decide +kernel
theorem dX3_leastRest_61 : decode cX3_leastRest 61 = .ok (.aload_n 0, 1) := by decide +kernel
theorem dX3_leastRest_62 : decode cX3_leastRest 62 = .ok (.getfield 11, 3) := by decide +kernel
theorem dX3_leastRest_65 : decode cX3_leastRest 65 = .ok (.iload_n 3, 1) := by decide +kernel
theorem dX3_leastRest_66 : decode cX3_leastRest 66 = .ok (.aaload, 1) := by decide +kernel
theorem dX3_leastRest_67 : decode cX3_leastRest 67 = .ok (.getfield 113, 3) := by decide +kernel
theorem dX3_leastRest_70 : decode cX3_leastRest 70 = .ok (.istore_n 2, 1) := by decide +kernel
theorem dX3_leastRest_71 : decode cX3_leastRest 71 = .ok (.iinc 3 1, 3) := by decide +kernel
theorem dX3_leastRest_74 : decode cX3_leastRest 74 = .ok (.goto (-69), 3) := by decide +kernel
theorem dX3_leastRest_77 : decode cX3_leastRest 77 = .ok (.iload_n 2, 1) := by decide +kernel
theorem dX3_leastRest_78 : decode cX3_leastRest 78 = .ok (.ireturn, 1) := by decide +kernel
theorem dX3_sumOver_0 : decode cX3_sumOver 0 = .ok (.iconst 0, 1) := by decide +kernel
theorem dX3_sumOver_1 : decode cX3_sumOver 1 = .ok (.istore_n 3, 1) := by decide +kernel
theorem dX3_sumOver_2 : decode cX3_sumOver 2 = .ok (.iconst 0, 1) := by decide +kernel
theorem dX3_sumOver_3 : decode cX3_sumOver 3 = .ok (.istore 4, 2) := by decide +kernel
theorem dX3_sumOver_5 : decode cX3_sumOver 5 = .ok (.iload 4, 2) := by decide +kernel
theorem dX3_sumOver_7 : decode cX3_sumOver 7 = .ok (.aload_n 0, 1) := by decide +kernel
theorem dX3_sumOver_8 : decode cX3_sumOver 8 = .ok (.getfield 29, 3) := by decide +kernel
theorem dX3_sumOver_11 : decode cX3_sumOver 11 = .ok (.if_icmp .ge 42, 3) := by decide +kernel
theorem dX3_sumOver_14 : decode cX3_sumOver 14 = .ok (.iload 4, 2) := by decide +kernel
theorem dX3_sumOver_16 : decode cX3_sumOver 16 = .ok (.aload_n 0, 1) := by decide +kernel
theorem dX3_sumOver_17 : decode cX3_sumOver 17 = .ok (.getfield 11, 3) := by decide +kernel
theorem dX3_sumOver_20 : decode cX3_sumOver 20 = .ok (.arraylength, 1) := by decide +kernel
theorem dX3_sumOver_21 : decode cX3_sumOver 21 = .ok (.if_icmp .ge 32, 3) := by decide +kernel
theorem dX3_sumOver_24 : decode cX3_sumOver 24 = .ok (.iload_n 1, 1) := by decide +kernel
theorem dX3_sumOver_25 : decode cX3_sumOver 25 = .ok (.iconst 1, 1) := by decide +kernel
theorem dX3_sumOver_26 : decode cX3_sumOver 26 = .ok (.iload 4, 2) := by decide +kernel
theorem dX3_sumOver_28 : decode cX3_sumOver 28 = .ok (.ishl, 1) := by decide +kernel
theorem dX3_sumOver_29 : decode cX3_sumOver 29 = .ok (.iand, 1) := by decide +kernel
theorem dX3_sumOver_30 : decode cX3_sumOver 30 = .ok (.ifCond .eq 17, 3) := by decide +kernel
theorem dX3_sumOver_33 : decode cX3_sumOver 33 = .ok (.iload_n 3, 1) := by decide +kernel
theorem dX3_sumOver_34 : decode cX3_sumOver 34 = .ok (.aload_n 0, 1) := by decide +kernel
theorem dX3_sumOver_35 : decode cX3_sumOver 35 = .ok (.getfield 11, 3) := by decide +kernel
theorem dX3_sumOver_38 : decode cX3_sumOver 38 = .ok (.iload 4, 2) := by decide +kernel
theorem dX3_sumOver_40 : decode cX3_sumOver 40 = .ok (.aaload, 1) := by decide +kernel
theorem dX3_sumOver_41 : decode cX3_sumOver 41 = .ok (.iload_n 2, 1) := by decide +kernel
theorem dX3_sumOver_42 : decode cX3_sumOver 42 = .ok (.invokevirtual 138, 3) := by decide +kernel
theorem dX3_sumOver_45 : decode cX3_sumOver 45 = .ok (.iadd, 1) := by decide +kernel
theorem dX3_sumOver_46 : decode cX3_sumOver 46 = .ok (.istore_n 3, 1) := by decide +kernel
theorem dX3_sumOver_47 : decode cX3_sumOver 47 = .ok (.iinc 4 1, 3) := by decide +kernel
theorem dX3_sumOver_50 : decode cX3_sumOver 50 = .ok (.goto (-45), 3) := by decide +kernel
theorem dX3_sumOver_53 : decode cX3_sumOver 53 = .ok (.iload_n 3, 1) := by decide +kernel
theorem dX3_sumOver_54 : decode cX3_sumOver 54 = .ok (.ireturn, 1) := by decide +kernel
theorem dX3_clockInPlace_0 : decode cX3_clockInPlace 0 = .ok (.iconst 0, 1) := by decide +kernel
theorem dX3_clockInPlace_1 : decode cX3_clockInPlace 1 = .ok (.istore_n 2, 1) := by decide +kernel
theorem dX3_clockInPlace_2 : decode cX3_clockInPlace 2 = .ok (.iload_n 2, 1) := by decide +kernel
theorem dX3_clockInPlace_3 : decode cX3_clockInPlace 3 = .ok (.aload_n 0, 1) := by decide +kernel
theorem dX3_clockInPlace_4 : decode cX3_clockInPlace 4 = .ok (.getfield 29, 3) := by decide +kernel
theorem dX3_clockInPlace_7 : decode cX3_clockInPlace 7 = .ok (.if_icmp .ge 38, 3) := by decide +kernel
theorem dX3_clockInPlace_10 : decode cX3_clockInPlace 10 = .ok (.iload_n 2, 1) := by decide +kernel
theorem dX3_clockInPlace_11 : decode cX3_clockInPlace 11 = .ok (.aload_n 0, 1) := by decide +kernel
theorem dX3_clockInPlace_12 : decode cX3_clockInPlace 12 = .ok (.getfield 11, 3) := by decide +kernel
theorem dX3_clockInPlace_15 : decode cX3_clockInPlace 15 = .ok (.arraylength, 1) := by decide +kernel
theorem dX3_clockInPlace_16 : decode cX3_clockInPlace 16 = .ok (.if_icmp .ge 29, 3) := by decide +kernel
theorem dX3_clockInPlace_19 : decode cX3_clockInPlace 19 = .ok (.aload_n 0, 1) := by decide +kernel
theorem dX3_clockInPlace_20 : decode cX3_clockInPlace 20 = .ok (.iload_n 2, 1) := by decide +kernel
theorem dX3_clockInPlace_21 : decode cX3_clockInPlace 21 = .ok (.aload_n 0, 1) := by decide +kernel
theorem dX3_clockInPlace_22 : decode cX3_clockInPlace 22 = .ok (.getfield 11, 3) := by decide +kernel
theorem dX3_clockInPlace_25 : decode cX3_clockInPlace 25 = .ok (.iload_n 2, 1) := by decide +kernel
theorem dX3_clockInPlace_26 : decode cX3_clockInPlace 26 = .ok (.aaload, 1) := by decide +kernel
theorem dX3_clockInPlace_27 : decode cX3_clockInPlace 27 = .ok (.getfield 113, 3) := by decide +kernel
theorem dX3_clockInPlace_30 : decode cX3_clockInPlace 30 = .ok (.invokevirtual 141, 3) := by decide +kernel
theorem dX3_clockInPlace_33 : decode cX3_clockInPlace 33 = .ok (.iload_n 1, 1) := by decide +kernel
theorem dX3_clockInPlace_34 : decode cX3_clockInPlace 34 = .ok (.if_icmp .ne 5, 3) := by decide +kernel
theorem dX3_clockInPlace_37 : decode cX3_clockInPlace 37 = .ok (.iload_n 2, 1) := by decide +kernel
theorem dX3_clockInPlace_38 : decode cX3_clockInPlace 38 = .ok (.ireturn, 1) := by decide +kernel
theorem dX3_clockInPlace_39 : decode cX3_clockInPlace 39 = .ok (.iinc 2 1, 3) := by decide +kernel
theorem dX3_clockInPlace_42 : decode cX3_clockInPlace 42 = .ok (.goto (-40), 3) := by decide +kernel
theorem dX3_clockInPlace_45 : decode cX3_clockInPlace 45 = .ok (.ldc 137, 2) := by decide +kernel
theorem dX3_clockInPlace_47 : decode cX3_clockInPlace 47 = .ok (.ireturn, 1) := by decide +kernel
theorem dX3_clocksAhead_0 : decode cX3_clocksAhead 0 = .ok (.iconst 0, 1) := by decide +kernel
theorem dX3_clocksAhead_1 : decode cX3_clocksAhead 1 = .ok (.istore_n 3, 1) := by decide +kernel
theorem dX3_clocksAhead_2 : decode cX3_clocksAhead 2 = .ok (.iconst 0, 1) := by decide +kernel
theorem dX3_clocksAhead_3 : decode cX3_clocksAhead 3 = .ok (.istore 4, 2) := by decide +kernel
theorem dX3_clocksAhead_5 : decode cX3_clocksAhead 5 = .ok (.iload 4, 2) := by decide +kernel
theorem dX3_clocksAhead_7 : decode cX3_clocksAhead 7 = .ok (.aload_n 0, 1) := by decide +kernel
theorem dX3_clocksAhead_8 : decode cX3_clocksAhead 8 = .ok (.getfield 29, 3) := by decide +kernel
theorem dX3_clocksAhead_11 : decode cX3_clocksAhead 11 = .ok (.if_icmp .ge 52, 3) := by decide +kernel
theorem dX3_clocksAhead_14 : decode cX3_clocksAhead 14 = .ok (.iload 4, 2) := by decide +kernel
theorem dX3_clocksAhead_16 : decode cX3_clocksAhead 16 = .ok (.aload_n 0, 1) := by decide +kernel
theorem dX3_clocksAhead_17 : decode cX3_clocksAhead 17 = .ok (.getfield 11, 3) := by decide +kernel
theorem dX3_clocksAhead_20 : decode cX3_clocksAhead 20 = .ok (.arraylength, 1) := by decide +kernel
theorem dX3_clocksAhead_21 : decode cX3_clocksAhead 21 = .ok (.if_icmp .ge 42, 3) := by decide +kernel
theorem dX3_clocksAhead_24 : decode cX3_clocksAhead 24 = .ok (.aload_n 0, 1) := by decide +kernel
theorem dX3_clocksAhead_25 : decode cX3_clocksAhead 25 = .ok (.getfield 11, 3) := by decide +kernel
theorem dX3_clocksAhead_28 : decode cX3_clocksAhead 28 = .ok (.iload 4, 2) := by decide +kernel
theorem dX3_clocksAhead_30 : decode cX3_clocksAhead 30 = .ok (.aaload, 1) := by decide +kernel
theorem dX3_clocksAhead_31 : decode cX3_clocksAhead 31 = .ok (.getfield 113, 3) := by decide +kernel
theorem dX3_clocksAhead_34 : decode cX3_clocksAhead 34 = .ok (.istore 5, 2) := by decide +kernel
theorem dX3_clocksAhead_36 : decode cX3_clocksAhead 36 = .ok (.iload 5, 2) := by decide +kernel
theorem dX3_clocksAhead_38 : decode cX3_clocksAhead 38 = .ok (.iload_n 2, 1) := by decide +kernel
theorem dX3_clocksAhead_39 : decode cX3_clocksAhead 39 = .ok (.if_icmp .lt 15, 3) := by decide +kernel
theorem dX3_clocksAhead_42 : decode cX3_clocksAhead 42 = .ok (.iload 5, 2) := by decide +kernel
theorem dX3_clocksAhead_44 : decode cX3_clocksAhead 44 = .ok (.iload_n 2, 1) := by decide +kernel
theorem dX3_clocksAhead_45 : decode cX3_clocksAhead 45 = .ok (.if_icmp .ne 12, 3) := by decide +kernel
theorem dX3_clocksAhead_48 : decode cX3_clocksAhead 48 = .ok (.iload 4, 2) := by decide +kernel
theorem dX3_clocksAhead_50 : decode cX3_clocksAhead 50 = .ok (.iload_n 1, 1) := by decide +kernel
theorem dX3_clocksAhead_51 : decode cX3_clocksAhead 51 = .ok (.if_icmp .ge 6, 3) := by decide +kernel
theorem dX3_clocksAhead_54 : decode cX3_clocksAhead 54 = .ok (.iinc 3 1, 3) := by decide +kernel
theorem dX3_clocksAhead_57 : decode cX3_clocksAhead 57 = .ok (.iinc 4 1, 3) := by decide +kernel
theorem dX3_clocksAhead_60 : decode cX3_clocksAhead 60 = .ok (.goto (-55), 3) := by decide +kernel
theorem dX3_clocksAhead_63 : decode cX3_clocksAhead 63 = .ok (.iload_n 3, 1) := by decide +kernel
theorem dX3_clocksAhead_64 : decode cX3_clocksAhead 64 = .ok (.ireturn, 1) := by decide +kernel
theorem dX3_aboutToTell_0 : decode cX3_aboutToTell 0 = .ok (.iconst 0, 1) := by decide +kernel
theorem dX3_aboutToTell_1 : decode cX3_aboutToTell 1 = .ok (.istore_n 1, 1) := by decide +kernel
theorem dX3_aboutToTell_2 : decode cX3_aboutToTell 2 = .ok (.iconst 0, 1) := by decide +kernel
theorem dX3_aboutToTell_3 : decode cX3_aboutToTell 3 = .ok (.istore_n 2, 1) := by decide +kernel
theorem dX3_aboutToTell_4 : decode cX3_aboutToTell 4 = .ok (.iload_n 2, 1) := by decide +kernel
theorem dX3_aboutToTell_5 : decode cX3_aboutToTell 5 = .ok (.aload_n 0, 1) := by decide +kernel
theorem dX3_aboutToTell_6 : decode cX3_aboutToTell 6 = .ok (.getfield 29, 3) := by decide +kernel
theorem dX3_aboutToTell_9 : decode cX3_aboutToTell 9 = .ok (.if_icmp .ge 37, 3) := by decide +kernel
theorem dX3_aboutToTell_12 : decode cX3_aboutToTell 12 = .ok (.iload_n 2, 1) := by decide +kernel
theorem dX3_aboutToTell_13 : decode cX3_aboutToTell 13 = .ok (.aload_n 0, 1) := by decide +kernel
theorem dX3_aboutToTell_14 : decode cX3_aboutToTell 14 = .ok (.getfield 11, 3) := by decide +kernel
theorem dX3_aboutToTell_17 : decode cX3_aboutToTell 17 = .ok (.arraylength, 1) := by decide +kernel
theorem dX3_aboutToTell_18 : decode cX3_aboutToTell 18 = .ok (.if_icmp .ge 28, 3) := by decide +kernel
theorem dX3_aboutToTell_21 : decode cX3_aboutToTell 21 = .ok (.aload_n 0, 1) := by decide +kernel
theorem dX3_aboutToTell_22 : decode cX3_aboutToTell 22 = .ok (.getfield 11, 3) := by decide +kernel
theorem dX3_aboutToTell_25 : decode cX3_aboutToTell 25 = .ok (.iload_n 2, 1) := by decide +kernel
theorem dX3_aboutToTell_26 : decode cX3_aboutToTell 26 = .ok (.aaload, 1) := by decide +kernel
theorem dX3_aboutToTell_27 : decode cX3_aboutToTell 27 = .ok (.getfield 113, 3) := by decide +kernel
theorem dX3_aboutToTell_30 : decode cX3_aboutToTell 30 = .ok (.iconst 1, 1) := by decide +kernel
theorem dX3_aboutToTell_31 : decode cX3_aboutToTell 31 = .ok (.if_icmp .ne 9, 3) := by decide +kernel
theorem dX3_aboutToTell_34 : decode cX3_aboutToTell 34 = .ok (.iload_n 1, 1) := by decide +kernel
theorem dX3_aboutToTell_35 : decode cX3_aboutToTell 35 = .ok (.iconst 1, 1) := by decide +kernel
theorem dX3_aboutToTell_36 : decode cX3_aboutToTell 36 = .ok (.iload_n 2, 1) := by decide +kernel
theorem dX3_aboutToTell_37 : decode cX3_aboutToTell 37 = .ok (.ishl, 1) := by decide +kernel
theorem dX3_aboutToTell_38 : decode cX3_aboutToTell 38 = .ok (.ior, 1) := by decide +kernel
theorem dX3_aboutToTell_39 : decode cX3_aboutToTell 39 = .ok (.istore_n 1, 1) := by decide +kernel
theorem dX3_aboutToTell_40 : decode cX3_aboutToTell 40 = .ok (.iinc 2 1, 3) := by decide +kernel
theorem dX3_aboutToTell_43 : decode cX3_aboutToTell 43 = .ok (.goto (-39), 3) := by decide +kernel
theorem dX3_aboutToTell_46 : decode cX3_aboutToTell 46 = .ok (.iload_n 1, 1) := by decide +kernel
theorem dX3_aboutToTell_47 : decode cX3_aboutToTell 47 = .ok (.ireturn, 1) := by decide +kernel
theorem dX3_greatestAge_0 : decode cX3_greatestAge 0 = .ok (.ldc 137, 2) := by decide +kernel
theorem dX3_greatestAge_2 : decode cX3_greatestAge 2 = .ok (.istore_n 1, 1) := by decide +kernel
theorem dX3_greatestAge_3 : decode cX3_greatestAge 3 = .ok (.iconst 0, 1) := by decide +kernel
theorem dX3_greatestAge_4 : decode cX3_greatestAge 4 = .ok (.istore_n 2, 1) := by decide +kernel
theorem dX3_greatestAge_5 : decode cX3_greatestAge 5 = .ok (.iload_n 2, 1) := by decide +kernel
theorem dX3_greatestAge_6 : decode cX3_greatestAge 6 = .ok (.aload_n 0, 1) := by decide +kernel
theorem dX3_greatestAge_7 : decode cX3_greatestAge 7 = .ok (.getfield 29, 3) := by decide +kernel
theorem dX3_greatestAge_10 : decode cX3_greatestAge 10 = .ok (.if_icmp .ge 32, 3) := by decide +kernel
theorem dX3_greatestAge_13 : decode cX3_greatestAge 13 = .ok (.iload_n 2, 1) := by decide +kernel
theorem dX3_greatestAge_14 : decode cX3_greatestAge 14 = .ok (.aload_n 0, 1) := by decide +kernel
theorem dX3_greatestAge_15 : decode cX3_greatestAge 15 = .ok (.getfield 11, 3) := by decide +kernel
theorem dX3_greatestAge_18 : decode cX3_greatestAge 18 = .ok (.arraylength, 1) := by decide +kernel
theorem dX3_greatestAge_19 : decode cX3_greatestAge 19 = .ok (.if_icmp .ge 23, 3) := by decide +kernel
theorem dX3_greatestAge_22 : decode cX3_greatestAge 22 = .ok (.iload_n 1, 1) := by decide +kernel
theorem dX3_greatestAge_23 : decode cX3_greatestAge 23 = .ok (.aload_n 0, 1) := by decide +kernel
theorem dX3_greatestAge_24 : decode cX3_greatestAge 24 = .ok (.getfield 11, 3) := by decide +kernel
theorem dX3_greatestAge_27 : decode cX3_greatestAge 27 = .ok (.iload_n 2, 1) := by decide +kernel
theorem dX3_greatestAge_28 : decode cX3_greatestAge 28 = .ok (.aaload, 1) := by decide +kernel
theorem dX3_greatestAge_29 : decode cX3_greatestAge 29 = .ok (.invokevirtual 149, 3) := by decide +kernel
theorem dX3_greatestAge_32 : decode cX3_greatestAge 32 = .ok (.invokestatic 152, 3) := by decide +kernel
theorem dX3_greatestAge_35 : decode cX3_greatestAge 35 = .ok (.istore_n 1, 1) := by decide +kernel
theorem dX3_greatestAge_36 : decode cX3_greatestAge 36 = .ok (.iinc 2 1, 3) := by decide +kernel
theorem dX3_greatestAge_39 : decode cX3_greatestAge 39 = .ok (.goto (-34), 3) := by decide +kernel
theorem dX3_greatestAge_42 : decode cX3_greatestAge 42 = .ok (.iload_n 1, 1) := by decide +kernel
theorem dX3_greatestAge_43 : decode cX3_greatestAge 43 = .ok (.ireturn, 1) := by decide +kernel
theorem dX4_init_0 : decode cX4_init 0 = .ok (.aload_n 0, 1) := by decide +kernel
theorem dX4_init_1 : decode cX4_init 1 = .ok (.invokespecial 3, 3) := by decide +kernel
theorem dX4_init_4 : decode cX4_init 4 = .ok (.aload_n 0, 1) := by decide +kernel
theorem dX4_init_5 : decode cX4_init 5 = .ok (.iconst 5, 1) := by decide +kernel
theorem dX4_init_6 : decode cX4_init 6 = .ok (.anewarray 9, 3) := by decide +kernel
theorem dX4_init_9 : decode cX4_init 9 = .ok (.putfield 11, 3) := by decide +kernel
theorem dX4_init_12 : decode cX4_init 12 = .ok (.iconst 0, 1) := by decide +kernel
theorem dX4_init_13 : decode cX4_init 13 = .ok (.istore_n 1, 1) := by decide +kernel
theorem dX4_init_14 : decode cX4_init 14 = .ok (.iload_n 1, 1) := by decide +kernel
theorem dX4_init_15 : decode cX4_init 15 = .ok (.aload_n 0, 1) := by decide +kernel
theorem dX4_init_16 : decode cX4_init 16 = .ok (.getfield 11, 3) := by decide +kernel
theorem dX4_init_19 : decode cX4_init 19 = .ok (.arraylength, 1) := by decide +kernel
theorem dX4_init_20 : decode cX4_init 20 = .ok (.if_icmp .ge 22, 3) := by decide +kernel
theorem dX4_init_23 : decode cX4_init 23 = .ok (.aload_n 0, 1) := by decide +kernel
theorem dX4_init_24 : decode cX4_init 24 = .ok (.getfield 11, 3) := by decide +kernel
theorem dX4_init_27 : decode cX4_init 27 = .ok (.iload_n 1, 1) := by decide +kernel
theorem dX4_init_28 : decode cX4_init 28 = .ok (.new 9, 3) := by decide +kernel
theorem dX4_init_31 : decode cX4_init 31 = .ok (.dup, 1) := by decide +kernel
theorem dX4_init_32 : decode cX4_init 32 = .ok (.invokespecial 17, 3) := by decide +kernel
theorem dX4_init_35 : decode cX4_init 35 = .ok (.aastore, 1) := by decide +kernel
theorem dX4_init_36 : decode cX4_init 36 = .ok (.iinc 1 1, 3) := by decide +kernel
theorem dX4_init_39 : decode cX4_init 39 = .ok (.goto (-25), 3) := by decide +kernel
theorem dX4_init_42 : decode cX4_init 42 = .ok (.return_, 1) := by decide +kernel
theorem dX4_note_0 : decode cX4_note 0 = .ok (.aload_n 0, 1) := by decide +kernel
theorem dX4_note_1 : decode cX4_note 1 = .ok (.getfield 18, 3) := by decide +kernel
theorem dX4_note_4 : decode cX4_note 4 = .ok (.ifCond .lt 28, 3) := by decide +kernel
theorem dX4_note_7 : decode cX4_note 7 = .ok (.aload_n 0, 1) := by decide +kernel
theorem dX4_note_8 : decode cX4_note 8 = .ok (.getfield 18, 3) := by decide +kernel
theorem dX4_note_11 : decode cX4_note 11 = .ok (.aload_n 0, 1) := by decide +kernel
theorem dX4_note_12 : decode cX4_note 12 = .ok (.getfield 11, 3) := by decide +kernel
theorem dX4_note_15 : decode cX4_note 15 = .ok (.arraylength, 1) := by decide +kernel
theorem dX4_note_16 : decode cX4_note 16 = .ok (.if_icmp .ge 16, 3) := by decide +kernel
theorem dX4_note_19 : decode cX4_note 19 = .ok (.aload_n 0, 1) := by decide +kernel
theorem dX4_note_20 : decode cX4_note 20 = .ok (.getfield 11, 3) := by decide +kernel
theorem dX4_note_23 : decode cX4_note 23 = .ok (.aload_n 0, 1) := by decide +kernel
theorem dX4_note_24 : decode cX4_note 24 = .ok (.getfield 18, 3) := by decide +kernel
theorem dX4_note_27 : decode cX4_note 27 = .ok (.aaload, 1) := by decide +kernel
theorem dX4_note_28 : decode cX4_note 28 = .ok (.aload_n 1, 1) := by decide +kernel
theorem dX4_note_29 : decode cX4_note 29 = .ok (.invokevirtual 22, 3) := by decide +kernel
theorem dX4_note_32 : decode cX4_note 32 = .ok (.return_, 1) := by decide +kernel
theorem dX4_keep_0 : decode cX4_keep 0 = .ok (.aload_n 0, 1) := by decide +kernel
theorem dX4_keep_1 : decode cX4_keep 1 = .ok (.dup, 1) := by decide +kernel
theorem dX4_keep_2 : decode cX4_keep 2 = .ok (.getfield 18, 3) := by decide +kernel
theorem dX4_keep_5 : decode cX4_keep 5 = .ok (.iconst 1, 1) := by decide +kernel
theorem dX4_keep_6 : decode cX4_keep 6 = .ok (.iadd, 1) := by decide +kernel
theorem dX4_keep_7 : decode cX4_keep 7 = .ok (.putfield 18, 3) := by decide +kernel
theorem dX4_keep_10 : decode cX4_keep 10 = .ok (.aload_n 0, 1) := by decide +kernel
theorem dX4_keep_11 : decode cX4_keep 11 = .ok (.getfield 18, 3) := by decide +kernel
theorem dX4_keep_14 : decode cX4_keep 14 = .ok (.iconst 4, 1) := by decide +kernel
theorem dX4_keep_15 : decode cX4_keep 15 = .ok (.if_icmp .gt 4, 3) := by decide +kernel
theorem dX4_keep_18 : decode cX4_keep 18 = .ok (.return_, 1) := by decide +kernel
theorem dX4_keep_19 : decode cX4_keep 19 = .ok (.aload_n 0, 1) := by decide +kernel
theorem dX4_keep_20 : decode cX4_keep 20 = .ok (.iconst 4, 1) := by decide +kernel
theorem dX4_keep_21 : decode cX4_keep 21 = .ok (.putfield 18, 3) := by decide +kernel
theorem dX4_keep_24 : decode cX4_keep 24 = .ok (.aload_n 0, 1) := by decide +kernel
theorem dX4_keep_25 : decode cX4_keep 25 = .ok (.getfield 11, 3) := by decide +kernel
theorem dX4_keep_28 : decode cX4_keep 28 = .ok (.iconst 0, 1) := by decide +kernel
theorem dX4_keep_29 : decode cX4_keep 29 = .ok (.aaload, 1) := by decide +kernel
theorem dX4_keep_30 : decode cX4_keep 30 = .ok (.astore_n 1, 1) := by decide +kernel
theorem dX4_keep_31 : decode cX4_keep 31 = .ok (.iconst 1, 1) := by decide +kernel
theorem dX4_keep_32 : decode cX4_keep 32 = .ok (.istore_n 2, 1) := by decide +kernel
theorem dX4_keep_33 : decode cX4_keep 33 = .ok (.iload_n 2, 1) := by decide +kernel
theorem dX4_keep_34 : decode cX4_keep 34 = .ok (.aload_n 0, 1) := by decide +kernel
theorem dX4_keep_35 : decode cX4_keep 35 = .ok (.getfield 11, 3) := by decide +kernel
theorem dX4_keep_38 : decode cX4_keep 38 = .ok (.arraylength, 1) := by decide +kernel
theorem dX4_keep_39 : decode cX4_keep 39 = .ok (.if_icmp .ge 23, 3) := by decide +kernel
theorem dX4_keep_42 : decode cX4_keep 42 = .ok (.aload_n 0, 1) := by decide +kernel
theorem dX4_keep_43 : decode cX4_keep 43 = .ok (.getfield 11, 3) := by decide +kernel
theorem dX4_keep_46 : decode cX4_keep 46 = .ok (.iload_n 2, 1) := by decide +kernel
theorem dX4_keep_47 : decode cX4_keep 47 = .ok (.iconst 1, 1) := by decide +kernel
theorem dX4_keep_48 : decode cX4_keep 48 = .ok (.isub, 1) := by decide +kernel
theorem dX4_keep_49 : decode cX4_keep 49 = .ok (.aload_n 0, 1) := by decide +kernel
theorem dX4_keep_50 : decode cX4_keep 50 = .ok (.getfield 11, 3) := by decide +kernel
theorem dX4_keep_53 : decode cX4_keep 53 = .ok (.iload_n 2, 1) := by decide +kernel
theorem dX4_keep_54 : decode cX4_keep 54 = .ok (.aaload, 1) := by decide +kernel
theorem dX4_keep_55 : decode cX4_keep 55 = .ok (.aastore, 1) := by decide +kernel
theorem dX4_keep_56 : decode cX4_keep 56 = .ok (.iinc 2 1, 3) := by decide +kernel
theorem dX4_keep_59 : decode cX4_keep 59 = .ok (.goto (-26), 3) := by decide +kernel
theorem dX4_keep_62 : decode cX4_keep 62 = .ok (.aload_n 0, 1) := by decide +kernel
theorem dX4_keep_63 : decode cX4_keep 63 = .ok (.getfield 11, 3) := by decide +kernel
theorem dX4_keep_66 : decode cX4_keep 66 = .ok (.iconst 4, 1) := by decide +kernel
theorem dX4_keep_67 : decode cX4_keep 67 = .ok (.aload_n 1, 1) := by decide +kernel
theorem dX4_keep_68 : decode cX4_keep 68 = .ok (.aastore, 1) := by decide +kernel
theorem dX4_keep_69 : decode cX4_keep 69 = .ok (.return_, 1) := by decide +kernel
theorem dX5_init_0 : decode cX5_init 0 = .ok (.aload_n 0, 1) := by decide +kernel
theorem dX5_init_1 : decode cX5_init 1 = .ok (.invokespecial 3, 3) := by decide +kernel
theorem dX5_init_4 : decode cX5_init 4 = .ok (.aload_n 0, 1) := by decide +kernel
theorem dX5_init_5 : decode cX5_init 5 = .ok (.iconst 5, 1) := by decide +kernel
theorem dX5_init_6 : decode cX5_init 6 = .ok (.newarray .int, 2) := by decide +kernel
theorem dX5_init_8 : decode cX5_init 8 = .ok (.putfield 9, 3) := by decide +kernel
theorem dX5_init_11 : decode cX5_init 11 = .ok (.aload_n 0, 1) := by decide +kernel
theorem dX5_init_12 : decode cX5_init 12 = .ok (.aload_n 1, 1) := by decide +kernel
theorem dX5_init_13 : decode cX5_init 13 = .ok (.putfield 15, 3) := by decide +kernel
theorem dX5_init_16 : decode cX5_init 16 = .ok (.return_, 1) := by decide +kernel
theorem dX6_init_0 : decode cX6_init 0 = .ok (.aload_n 0, 1) := by decide +kernel
theorem dX6_init_1 : decode cX6_init 1 = .ok (.invokespecial 3, 3) := by decide +kernel
theorem dX6_init_4 : decode cX6_init 4 = .ok (.aload_n 0, 1) := by decide +kernel
theorem dX6_init_5 : decode cX6_init 5 = .ok (.bipush 60, 2) := by decide +kernel
theorem dX6_init_7 : decode cX6_init 7 = .ok (.newarray .char, 2) := by decide +kernel
theorem dX6_init_9 : decode cX6_init 9 = .ok (.putfield 9, 3) := by decide +kernel
theorem dX6_init_12 : decode cX6_init 12 = .ok (.return_, 1) := by decide +kernel
theorem dX7_init_0 : decode cX7_init 0 = .ok (.aload_n 0, 1) := by decide +kernel
theorem dX7_init_1 : decode cX7_init 1 = .ok (.invokespecial 3, 3) := by decide +kernel
theorem dX7_init_4 : decode cX7_init 4 = .ok (.aload_n 0, 1) := by decide +kernel
theorem dX7_init_5 : decode cX7_init 5 = .ok (.new 9, 3) := by decide +kernel
theorem dX7_init_8 : decode cX7_init 8 = .ok (.dup, 1) := by decide +kernel
theorem dX7_init_9 : decode cX7_init 9 = .ok (.invokespecial 11, 3) := by decide +kernel
theorem dX7_init_12 : decode cX7_init 12 = .ok (.putfield 12, 3) := by decide +kernel
theorem dX7_init_15 : decode cX7_init 15 = .ok (.aload_n 0, 1) := by decide +kernel
theorem dX7_init_16 : decode cX7_init 16 = .ok (.new 9, 3) := by decide +kernel
theorem dX7_init_19 : decode cX7_init 19 = .ok (.dup, 1) := by decide +kernel
theorem dX7_init_20 : decode cX7_init 20 = .ok (.invokespecial 11, 3) := by decide +kernel
theorem dX7_init_23 : decode cX7_init 23 = .ok (.putfield 16, 3) := by decide +kernel
theorem dX7_init_26 : decode cX7_init 26 = .ok (.aload_n 0, 1) := by decide +kernel
theorem dX7_init_27 : decode cX7_init 27 = .ok (.new 19, 3) := by decide +kernel
theorem dX7_init_30 : decode cX7_init 30 = .ok (.dup, 1) := by decide +kernel
theorem dX7_init_31 : decode cX7_init 31 = .ok (.invokespecial 21, 3) := by decide +kernel
theorem dX7_init_34 : decode cX7_init 34 = .ok (.putfield 22, 3) := by decide +kernel
theorem dX7_init_37 : decode cX7_init 37 = .ok (.aload_n 0, 1) := by decide +kernel
theorem dX7_init_38 : decode cX7_init 38 = .ok (.new 26, 3) := by decide +kernel
theorem dX7_init_41 : decode cX7_init 41 = .ok (.dup, 1) := by decide +kernel
theorem dX7_init_42 : decode cX7_init 42 = .ok (.invokespecial 28, 3) := by decide +kernel
theorem dX7_init_45 : decode cX7_init 45 = .ok (.putfield 29, 3) := by decide +kernel
theorem dX7_init_48 : decode cX7_init 48 = .ok (.aload_n 0, 1) := by decide +kernel
theorem dX7_init_49 : decode cX7_init 49 = .ok (.new 33, 3) := by decide +kernel
theorem dX7_init_52 : decode cX7_init 52 = .ok (.dup, 1) := by decide +kernel
theorem dX7_init_53 : decode cX7_init 53 = .ok (.aload_n 0, 1) := by decide +kernel
theorem dX7_init_54 : decode cX7_init 54 = .ok (.getfield 29, 3) := by decide +kernel
theorem dX7_init_57 : decode cX7_init 57 = .ok (.invokespecial 35, 3) := by decide +kernel
theorem dX7_init_60 : decode cX7_init 60 = .ok (.putfield 38, 3) := by decide +kernel
theorem dX7_init_63 : decode cX7_init 63 = .ok (.return_, 1) := by decide +kernel
theorem dX7_clock_0 : decode cX7_clock 0 = .ok (.aload_n 0, 1) := by decide +kernel
theorem dX7_clock_1 : decode cX7_clock 1 = .ok (.getfield 22, 3) := by decide +kernel
theorem dX7_clock_4 : decode cX7_clock 4 = .ok (.aload_n 0, 1) := by decide +kernel
theorem dX7_clock_5 : decode cX7_clock 5 = .ok (.getfield 12, 3) := by decide +kernel
theorem dX7_clock_8 : decode cX7_clock 8 = .ok (.invokevirtual 42, 3) := by decide +kernel
theorem dX7_clock_11 : decode cX7_clock 11 = .ok (.aload_n 0, 1) := by decide +kernel
theorem dX7_clock_12 : decode cX7_clock 12 = .ok (.aload_n 0, 1) := by decide +kernel
theorem dX7_clock_13 : decode cX7_clock 13 = .ok (.getfield 12, 3) := by decide +kernel
theorem dX7_clock_16 : decode cX7_clock 16 = .ok (.iload_n 1, 1) := by decide +kernel
theorem dX7_clock_17 : decode cX7_clock 17 = .ok (.iload_n 2, 1) := by decide +kernel
theorem dX7_clock_18 : decode cX7_clock 18 = .ok (.iload_n 3, 1) := by decide +kernel
theorem dX7_clock_19 : decode cX7_clock 19 = .ok (.iload 4, 2) := by decide +kernel
theorem dX7_clock_21 : decode cX7_clock 21 = .ok (.iload 5, 2) := by decide +kernel
theorem dX7_clock_23 : decode cX7_clock 23 = .ok (.invokevirtual 46, 3) := by decide +kernel
theorem dX7_clock_26 : decode cX7_clock 26 = .ok (.invokevirtual 50, 3) := by decide +kernel
theorem dX7_clock_29 : decode cX7_clock 29 = .ok (.ireturn, 1) := by decide +kernel
theorem dX7_wind_0 : decode cX7_wind 0 = .ok (.aload_n 0, 1) := by decide +kernel
theorem dX7_wind_1 : decode cX7_wind 1 = .ok (.getfield 22, 3) := by decide +kernel
theorem dX7_wind_4 : decode cX7_wind 4 = .ok (.aload_n 0, 1) := by decide +kernel
theorem dX7_wind_5 : decode cX7_wind 5 = .ok (.getfield 12, 3) := by decide +kernel
theorem dX7_wind_8 : decode cX7_wind 8 = .ok (.invokevirtual 42, 3) := by decide +kernel
theorem dX7_wind_11 : decode cX7_wind 11 = .ok (.aload_n 0, 1) := by decide +kernel
theorem dX7_wind_12 : decode cX7_wind 12 = .ok (.aload_n 0, 1) := by decide +kernel
theorem dX7_wind_13 : decode cX7_wind 13 = .ok (.getfield 12, 3) := by decide +kernel
theorem dX7_wind_16 : decode cX7_wind 16 = .ok (.iload_n 1, 1) := by decide +kernel
theorem dX7_wind_17 : decode cX7_wind 17 = .ok (.invokevirtual 54, 3) := by decide +kernel
theorem dX7_wind_20 : decode cX7_wind 20 = .ok (.invokevirtual 50, 3) := by decide +kernel
theorem dX7_wind_23 : decode cX7_wind 23 = .ok (.ireturn, 1) := by decide +kernel
theorem dX7_tick_0 : decode cX7_tick 0 = .ok (.aload_n 0, 1) := by decide +kernel
theorem dX7_tick_1 : decode cX7_tick 1 = .ok (.getfield 22, 3) := by decide +kernel
theorem dX7_tick_4 : decode cX7_tick 4 = .ok (.aload_n 0, 1) := by decide +kernel
theorem dX7_tick_5 : decode cX7_tick 5 = .ok (.getfield 12, 3) := by decide +kernel
theorem dX7_tick_8 : decode cX7_tick 8 = .ok (.invokevirtual 42, 3) := by decide +kernel
theorem dX7_tick_11 : decode cX7_tick 11 = .ok (.aload_n 0, 1) := by decide +kernel
theorem dX7_tick_12 : decode cX7_tick 12 = .ok (.aload_n 0, 1) := by decide +kernel
theorem dX7_tick_13 : decode cX7_tick 13 = .ok (.getfield 12, 3) := by decide +kernel
theorem dX7_tick_16 : decode cX7_tick 16 = .ok (.iload_n 1, 1) := by decide +kernel
theorem dX7_tick_17 : decode cX7_tick 17 = .ok (.invokevirtual 57, 3) := by decide +kernel
theorem dX7_tick_20 : decode cX7_tick 20 = .ok (.invokevirtual 50, 3) := by decide +kernel
theorem dX7_tick_23 : decode cX7_tick 23 = .ok (.ireturn, 1) := by decide +kernel
theorem dX7_passenger_0 : decode cX7_passenger 0 = .ok (.aload_n 0, 1) := by decide +kernel
theorem dX7_passenger_1 : decode cX7_passenger 1 = .ok (.getfield 22, 3) := by decide +kernel
theorem dX7_passenger_4 : decode cX7_passenger 4 = .ok (.aload_n 0, 1) := by decide +kernel
theorem dX7_passenger_5 : decode cX7_passenger 5 = .ok (.getfield 12, 3) := by decide +kernel
theorem dX7_passenger_8 : decode cX7_passenger 8 = .ok (.invokevirtual 42, 3) := by decide +kernel
theorem dX7_passenger_11 : decode cX7_passenger 11 = .ok (.aload_n 0, 1) := by decide +kernel
theorem dX7_passenger_12 : decode cX7_passenger 12 = .ok (.aload_n 0, 1) := by decide +kernel
theorem dX7_passenger_13 : decode cX7_passenger 13 = .ok (.getfield 12, 3) := by decide +kernel
theorem dX7_passenger_16 : decode cX7_passenger 16 = .ok (.iload_n 1, 1) := by decide +kernel
theorem dX7_passenger_17 : decode cX7_passenger 17 = .ok (.invokevirtual 60, 3) := by decide +kernel
theorem dX7_passenger_20 : decode cX7_passenger 20 = .ok (.invokevirtual 50, 3) := by decide +kernel
theorem dX7_passenger_23 : decode cX7_passenger 23 = .ok (.ireturn, 1) := by decide +kernel
theorem dX7_group_0 : decode cX7_group 0 = .ok (.aload_n 0, 1) := by decide +kernel
theorem dX7_group_1 : decode cX7_group 1 = .ok (.getfield 22, 3) := by decide +kernel
theorem dX7_group_4 : decode cX7_group 4 = .ok (.aload_n 0, 1) := by decide +kernel
theorem dX7_group_5 : decode cX7_group 5 = .ok (.getfield 12, 3) := by decide +kernel
theorem dX7_group_8 : decode cX7_group 8 = .ok (.invokevirtual 42, 3) := by decide +kernel
theorem dX7_group_11 : decode cX7_group 11 = .ok (.aload_n 0, 1) := by decide +kernel
theorem dX7_group_12 : decode cX7_group 12 = .ok (.aload_n 0, 1) := by decide +kernel
theorem dX7_group_13 : decode cX7_group 13 = .ok (.getfield 12, 3) := by decide +kernel
theorem dX7_group_16 : decode cX7_group 16 = .ok (.iload_n 1, 1) := by decide +kernel
theorem dX7_group_17 : decode cX7_group 17 = .ok (.invokevirtual 63, 3) := by decide +kernel
theorem dX7_group_20 : decode cX7_group 20 = .ok (.invokevirtual 50, 3) := by decide +kernel
theorem dX7_group_23 : decode cX7_group 23 = .ok (.ireturn, 1) := by decide +kernel
theorem dX7_join_0 : decode cX7_join 0 = .ok (.aload_n 0, 1) := by decide +kernel
theorem dX7_join_1 : decode cX7_join 1 = .ok (.getfield 22, 3) := by decide +kernel
theorem dX7_join_4 : decode cX7_join 4 = .ok (.aload_n 0, 1) := by decide +kernel
theorem dX7_join_5 : decode cX7_join 5 = .ok (.getfield 12, 3) := by decide +kernel
theorem dX7_join_8 : decode cX7_join 8 = .ok (.invokevirtual 42, 3) := by decide +kernel
theorem dX7_join_11 : decode cX7_join 11 = .ok (.aload_n 0, 1) := by decide +kernel
theorem dX7_join_12 : decode cX7_join 12 = .ok (.aload_n 0, 1) := by decide +kernel
theorem dX7_join_13 : decode cX7_join 13 = .ok (.getfield 12, 3) := by decide +kernel
theorem dX7_join_16 : decode cX7_join 16 = .ok (.iload_n 1, 1) := by decide +kernel
theorem dX7_join_17 : decode cX7_join 17 = .ok (.iload_n 2, 1) := by decide +kernel
theorem dX7_join_18 : decode cX7_join 18 = .ok (.invokevirtual 66, 3) := by decide +kernel
theorem dX7_join_21 : decode cX7_join 21 = .ok (.invokevirtual 50, 3) := by decide +kernel
theorem dX7_join_24 : decode cX7_join 24 = .ok (.ireturn, 1) := by decide +kernel
theorem dX7_leave_0 : decode cX7_leave 0 = .ok (.aload_n 0, 1) := by decide +kernel
theorem dX7_leave_1 : decode cX7_leave 1 = .ok (.getfield 22, 3) := by decide +kernel
theorem dX7_leave_4 : decode cX7_leave 4 = .ok (.aload_n 0, 1) := by decide +kernel
theorem dX7_leave_5 : decode cX7_leave 5 = .ok (.getfield 12, 3) := by decide +kernel
theorem dX7_leave_8 : decode cX7_leave 8 = .ok (.invokevirtual 42, 3) := by decide +kernel
theorem dX7_leave_11 : decode cX7_leave 11 = .ok (.aload_n 0, 1) := by decide +kernel
theorem dX7_leave_12 : decode cX7_leave 12 = .ok (.aload_n 0, 1) := by decide +kernel
theorem dX7_leave_13 : decode cX7_leave 13 = .ok (.getfield 12, 3) := by decide +kernel
theorem dX7_leave_16 : decode cX7_leave 16 = .ok (.iload_n 1, 1) := by decide +kernel
theorem dX7_leave_17 : decode cX7_leave 17 = .ok (.iload_n 2, 1) := by decide +kernel
theorem dX7_leave_18 : decode cX7_leave 18 = .ok (.invokevirtual 70, 3) := by decide +kernel
theorem dX7_leave_21 : decode cX7_leave 21 = .ok (.invokevirtual 50, 3) := by decide +kernel
theorem dX7_leave_24 : decode cX7_leave 24 = .ok (.ireturn, 1) := by decide +kernel
theorem dX7_clockOf_0 : decode cX7_clockOf 0 = .ok (.aload_n 0, 1) := by decide +kernel
theorem dX7_clockOf_1 : decode cX7_clockOf 1 = .ok (.getfield 12, 3) := by decide +kernel
theorem dX7_clockOf_4 : decode cX7_clockOf 4 = .ok (.iload_n 1, 1) := by decide +kernel
theorem dX7_clockOf_5 : decode cX7_clockOf 5 = .ok (.invokevirtual 73, 3) := by decide +kernel
theorem dX7_clockOf_8 : decode cX7_clockOf 8 = .ok (.astore_n 3, 1) := by decide +kernel
theorem dX7_clockOf_9 : decode cX7_clockOf 9 = .ok (.aload_n 3, 1) := by decide +kernel
theorem dX7_clockOf_10 : decode cX7_clockOf 10 = .ok (.ifnull 13, 3) := by decide +kernel
theorem dX7_clockOf_13 : decode cX7_clockOf 13 = .ok (.iload_n 2, 1) := by decide +kernel
theorem dX7_clockOf_14 : decode cX7_clockOf 14 = .ok (.ifCond .lt 9, 3) := by decide +kernel
theorem dX7_clockOf_17 : decode cX7_clockOf 17 = .ok (.iload_n 2, 1) := by decide +kernel
theorem dX7_clockOf_18 : decode cX7_clockOf 18 = .ok (.bipush 13, 2) := by decide +kernel
theorem dX7_clockOf_20 : decode cX7_clockOf 20 = .ok (.if_icmp .le 6, 3) := by decide +kernel
theorem dX7_clockOf_23 : decode cX7_clockOf 23 = .ok (.ldc 77, 2) := by decide +kernel
theorem dX7_clockOf_25 : decode cX7_clockOf 25 = .ok (.ireturn, 1) := by decide +kernel
theorem dX7_clockOf_26 : decode cX7_clockOf 26 = .ok (.aload_n 3, 1) := by decide +kernel
theorem dX7_clockOf_27 : decode cX7_clockOf 27 = .ok (.iload_n 2, 1) := by decide +kernel
theorem dX7_clockOf_28 : decode cX7_clockOf 28 = .ok (.invokevirtual 78, 3) := by decide +kernel
theorem dX7_clockOf_31 : decode cX7_clockOf 31 = .ok (.ireturn, 1) := by decide +kernel
theorem dX7_groupOf_0 : decode cX7_groupOf 0 = .ok (.aload_n 0, 1) := by decide +kernel
theorem dX7_groupOf_1 : decode cX7_groupOf 1 = .ok (.getfield 12, 3) := by decide +kernel
theorem dX7_groupOf_4 : decode cX7_groupOf 4 = .ok (.iload_n 1, 1) := by decide +kernel
theorem dX7_groupOf_5 : decode cX7_groupOf 5 = .ok (.invokevirtual 108, 3) := by decide +kernel
theorem dX7_groupOf_8 : decode cX7_groupOf 8 = .ok (.astore_n 3, 1) := by decide +kernel
theorem dX7_groupOf_9 : decode cX7_groupOf 9 = .ok (.aload_n 3, 1) := by decide +kernel
theorem dX7_groupOf_10 : decode cX7_groupOf 10 = .ok (.ifnull 12, 3) := by decide +kernel
theorem dX7_groupOf_13 : decode cX7_groupOf 13 = .ok (.iload_n 2, 1) := by decide +kernel
theorem dX7_groupOf_14 : decode cX7_groupOf 14 = .ok (.ifCond .lt 8, 3) := by decide +kernel
theorem dX7_groupOf_17 : decode cX7_groupOf 17 = .ok (.iload_n 2, 1) := by decide +kernel
theorem dX7_groupOf_18 : decode cX7_groupOf 18 = .ok (.iconst 5, 1) := by decide +kernel
theorem dX7_groupOf_19 : decode cX7_groupOf 19 = .ok (.if_icmp .le 6, 3) := by decide +kernel
theorem dX7_groupOf_22 : decode cX7_groupOf 22 = .ok (.ldc 77, 2) := by decide +kernel
theorem dX7_groupOf_24 : decode cX7_groupOf 24 = .ok (.ireturn, 1) := by decide +kernel
theorem dX7_groupOf_25 : decode cX7_groupOf 25 = .ok (.iload_n 2, 1) := by decide +kernel
theorem dX7_groupOf_26 : decode cX7_groupOf 26 = .ok (.tableswitch 66 0 4 #[34, 39, 44, 56, 61], 34) := by decide +kernel
theorem dX7_groupOf_60 : decode cX7_groupOf 60 = .ok (.aload_n 3, 1) := by decide +kernel
theorem dX7_groupOf_61 : decode cX7_groupOf 61 = .ok (.getfield 112, 3) := by decide +kernel
theorem dX7_groupOf_64 : decode cX7_groupOf 64 = .ok (.ireturn, 1) := by decide +kernel
theorem dX7_groupOf_65 : decode cX7_groupOf 65 = .ok (.aload_n 3, 1) := by decide +kernel
theorem dX7_groupOf_66 : decode cX7_groupOf 66 = .ok (.getfield 117, 3) := by decide +kernel
theorem dX7_groupOf_69 : decode cX7_groupOf 69 = .ok (.ireturn, 1) := by decide +kernel
theorem dX7_groupOf_70 : decode cX7_groupOf 70 = .ok (.aload_n 0, 1) := by decide +kernel
theorem dX7_groupOf_71 : decode cX7_groupOf 71 = .ok (.getfield 12, 3) := by decide +kernel
theorem dX7_groupOf_74 : decode cX7_groupOf 74 = .ok (.aload_n 3, 1) := by decide +kernel
theorem dX7_groupOf_75 : decode cX7_groupOf 75 = .ok (.getfield 117, 3) := by decide +kernel
theorem dX7_groupOf_78 : decode cX7_groupOf 78 = .ok (.invokevirtual 120, 3) := by decide +kernel
theorem dX7_groupOf_81 : decode cX7_groupOf 81 = .ok (.ireturn, 1) := by decide +kernel
theorem dX7_groupOf_82 : decode cX7_groupOf 82 = .ok (.aload_n 3, 1) := by decide +kernel
theorem dX7_groupOf_83 : decode cX7_groupOf 83 = .ok (.getfield 123, 3) := by decide +kernel
theorem dX7_groupOf_86 : decode cX7_groupOf 86 = .ok (.ireturn, 1) := by decide +kernel
theorem dX7_groupOf_87 : decode cX7_groupOf 87 = .ok (.aload_n 3, 1) := by decide +kernel
theorem dX7_groupOf_88 : decode cX7_groupOf 88 = .ok (.getfield 125, 3) := by decide +kernel
theorem dX7_groupOf_91 : decode cX7_groupOf 91 = .ok (.ireturn, 1) := by decide +kernel
theorem dX7_groupOf_92 : decode cX7_groupOf 92 = .ok (.aload_n 0, 1) := by decide +kernel
theorem dX7_groupOf_93 : decode cX7_groupOf 93 = .ok (.getfield 12, 3) := by decide +kernel
theorem dX7_groupOf_96 : decode cX7_groupOf 96 = .ok (.aload_n 3, 1) := by decide +kernel
theorem dX7_groupOf_97 : decode cX7_groupOf 97 = .ok (.getfield 117, 3) := by decide +kernel
theorem dX7_groupOf_100 : decode cX7_groupOf 100 = .ok (.bipush 9, 2) := by decide +kernel
theorem dX7_groupOf_102 : decode cX7_groupOf 102 = .ok (.invokevirtual 128, 3) := by decide +kernel
theorem dX7_groupOf_105 : decode cX7_groupOf 105 = .ok (.ireturn, 1) := by decide +kernel
theorem dX7_next_0 : decode cX7_next 0 = .ok (.iload_n 1, 1) := by decide +kernel
theorem dX7_next_1 : decode cX7_next 1 = .ok (.ifCond .ge 6, 3) := by decide +kernel
theorem dX7_next_4 : decode cX7_next 4 = .ok (.ldc 77, 2) := by decide +kernel
theorem dX7_next_6 : decode cX7_next 6 = .ok (.ireturn, 1) := by decide +kernel
theorem dX7_next_7 : decode cX7_next 7 = .ok (.aload_n 0, 1) := by decide +kernel
theorem dX7_next_8 : decode cX7_next 8 = .ok (.getfield 12, 3) := by decide +kernel
theorem dX7_next_11 : decode cX7_next 11 = .ok (.iload_n 1, 1) := by decide +kernel
theorem dX7_next_12 : decode cX7_next 12 = .ok (.invokevirtual 131, 3) := by decide +kernel
theorem dX7_next_15 : decode cX7_next 15 = .ok (.ireturn, 1) := by decide +kernel
theorem dX7_count_0 : decode cX7_count 0 = .ok (.iload_n 1, 1) := by decide +kernel
theorem dX7_count_1 : decode cX7_count 1 = .ok (.tableswitch 159 0 10 #[59, 67, 75, 83, 91, 103, 115, 127, 135, 143, 151], 59) := by decide +kernel
theorem dX7_count_60 : decode cX7_count 60 = .ok (.aload_n 0, 1) := by decide +kernel
theorem dX7_count_61 : decode cX7_count 61 = .ok (.getfield 12, 3) := by decide +kernel
theorem dX7_count_64 : decode cX7_count 64 = .ok (.getfield 155, 3) := by decide +kernel
theorem dX7_count_67 : decode cX7_count 67 = .ok (.ireturn, 1) := by decide +kernel
theorem dX7_count_68 : decode cX7_count 68 = .ok (.aload_n 0, 1) := by decide +kernel
theorem dX7_count_69 : decode cX7_count 69 = .ok (.getfield 12, 3) := by decide +kernel
theorem dX7_count_72 : decode cX7_count 72 = .ok (.getfield 158, 3) := by decide +kernel
theorem dX7_count_75 : decode cX7_count 75 = .ok (.ireturn, 1) := by decide +kernel
theorem dX7_count_76 : decode cX7_count 76 = .ok (.aload_n 0, 1) := by decide +kernel
theorem dX7_count_77 : decode cX7_count 77 = .ok (.getfield 12, 3) := by decide +kernel
theorem dX7_count_80 : decode cX7_count 80 = .ok (.getfield 161, 3) := by decide +kernel
theorem dX7_count_83 : decode cX7_count 83 = .ok (.ireturn, 1) := by decide +kernel
theorem dX7_count_84 : decode cX7_count 84 = .ok (.aload_n 0, 1) := by decide +kernel
theorem dX7_count_85 : decode cX7_count 85 = .ok (.getfield 12, 3) := by decide +kernel
theorem dX7_count_88 : decode cX7_count 88 = .ok (.getfield 164, 3) := by decide +kernel
theorem dX7_count_91 : decode cX7_count 91 = .ok (.ireturn, 1) := by decide +kernel
theorem dX7_count_92 : decode cX7_count 92 = .ok (.aload_n 0, 1) := by decide +kernel
theorem dX7_count_93 : decode cX7_count 93 = .ok (.getfield 12, 3) := by decide +kernel
theorem dX7_count_96 : decode cX7_count 96 = .ok (.bipush 63, 2) := by decide +kernel
theorem dX7_count_98 : decode cX7_count 98 = .ok (.bipush 8, 2) := by decide +kernel
theorem dX7_count_100 : decode cX7_count 100 = .ok (.invokevirtual 128, 3) := by decide +kernel
theorem dX7_count_103 : decode cX7_count 103 = .ok (.ireturn, 1) := by decide +kernel
theorem dX7_count_104 : decode cX7_count 104 = .ok (.aload_n 0, 1) := by decide +kernel
theorem dX7_count_105 : decode cX7_count 105 = .ok (.getfield 12, 3) := by decide +kernel
theorem dX7_count_108 : decode cX7_count 108 = .ok (.bipush 63, 2) := by decide +kernel
theorem dX7_count_110 : decode cX7_count 110 = .ok (.bipush 11, 2) := by decide +kernel
theorem dX7_count_112 : decode cX7_count 112 = .ok (.invokevirtual 128, 3) := by decide +kernel
theorem dX7_count_115 : decode cX7_count 115 = .ok (.ireturn, 1) := by decide +kernel
theorem dX7_count_116 : decode cX7_count 116 = .ok (.aload_n 0, 1) := by decide +kernel
theorem dX7_count_117 : decode cX7_count 117 = .ok (.getfield 12, 3) := by decide +kernel
theorem dX7_count_120 : decode cX7_count 120 = .ok (.bipush 63, 2) := by decide +kernel
theorem dX7_count_122 : decode cX7_count 122 = .ok (.bipush 12, 2) := by decide +kernel
theorem dX7_count_124 : decode cX7_count 124 = .ok (.invokevirtual 128, 3) := by decide +kernel
theorem dX7_count_127 : decode cX7_count 127 = .ok (.ireturn, 1) := by decide +kernel
theorem dX7_count_128 : decode cX7_count 128 = .ok (.aload_n 0, 1) := by decide +kernel
theorem dX7_count_129 : decode cX7_count 129 = .ok (.getfield 12, 3) := by decide +kernel
theorem dX7_count_132 : decode cX7_count 132 = .ok (.invokevirtual 167, 3) := by decide +kernel
theorem dX7_count_135 : decode cX7_count 135 = .ok (.ireturn, 1) := by decide +kernel
theorem dX7_count_136 : decode cX7_count 136 = .ok (.aload_n 0, 1) := by decide +kernel
theorem dX7_count_137 : decode cX7_count 137 = .ok (.getfield 12, 3) := by decide +kernel
theorem dX7_count_140 : decode cX7_count 140 = .ok (.invokevirtual 170, 3) := by decide +kernel
theorem dX7_count_143 : decode cX7_count 143 = .ok (.ireturn, 1) := by decide +kernel
theorem dX7_count_144 : decode cX7_count 144 = .ok (.aload_n 0, 1) := by decide +kernel
theorem dX7_count_145 : decode cX7_count 145 = .ok (.getfield 22, 3) := by decide +kernel
theorem dX7_count_148 : decode cX7_count 148 = .ok (.getfield 173, 3) := by decide +kernel
theorem dX7_count_151 : decode cX7_count 151 = .ok (.ireturn, 1) := by decide +kernel
theorem dX7_count_152 : decode cX7_count 152 = .ok (.aload_n 0, 1) := by decide +kernel
theorem dX7_count_153 : decode cX7_count 153 = .ok (.getfield 29, 3) := by decide +kernel
theorem dX7_count_156 : decode cX7_count 156 = .ok (.getfield 176, 3) := by decide +kernel
theorem dX7_count_159 : decode cX7_count 159 = .ok (.ireturn, 1) := by decide +kernel
theorem dX7_count_160 : decode cX7_count 160 = .ok (.ldc 77, 2) := by decide +kernel
theorem dX7_count_162 : decode cX7_count 162 = .ok (.ireturn, 1) := by decide +kernel
theorem dX7_settle_0 : decode cX7_settle 0 = .ok (.iload_n 1, 1) := by decide +kernel
theorem dX7_settle_1 : decode cX7_settle 1 = .ok (.ifCond .lt 10, 3) := by decide +kernel
theorem dX7_settle_4 : decode cX7_settle 4 = .ok (.aload_n 0, 1) := by decide +kernel
theorem dX7_settle_5 : decode cX7_settle 5 = .ok (.getfield 22, 3) := by decide +kernel
theorem dX7_settle_8 : decode cX7_settle 8 = .ok (.invokevirtual 203, 3) := by decide +kernel
theorem dX7_settle_11 : decode cX7_settle 11 = .ok (.iload_n 1, 1) := by decide +kernel
theorem dX7_settle_12 : decode cX7_settle 12 = .ok (.ireturn, 1) := by decide +kernel
theorem dX7_isLaw_0 : decode cX7_isLaw 0 = .ok (.iload_n 0, 1) := by decide +kernel
theorem dX7_isLaw_1 : decode cX7_isLaw 1 = .ok (.ifCond .lt 12, 3) := by decide +kernel
theorem dX7_isLaw_4 : decode cX7_isLaw 4 = .ok (.iload_n 0, 1) := by decide +kernel
theorem dX7_isLaw_5 : decode cX7_isLaw 5 = .ok (.iconst 2, 1) := by decide +kernel
theorem dX7_isLaw_6 : decode cX7_isLaw 6 = .ok (.if_icmp .gt 7, 3) := by decide +kernel
theorem dX7_isLaw_9 : decode cX7_isLaw 9 = .ok (.iconst 1, 1) := by decide +kernel
theorem dX7_isLaw_10 : decode cX7_isLaw 10 = .ok (.goto 4, 3) := by decide +kernel
theorem dX7_isLaw_13 : decode cX7_isLaw 13 = .ok (.iconst 0, 1) := by decide +kernel
theorem dX7_isLaw_14 : decode cX7_isLaw 14 = .ok (.ireturn, 1) := by decide +kernel
theorem dX7_isGap_0 : decode cX7_isGap 0 = .ok (.iload_n 0, 1) := by decide +kernel
theorem dX7_isGap_1 : decode cX7_isGap 1 = .ok (.iconst 1, 1) := by decide +kernel
theorem dX7_isGap_2 : decode cX7_isGap 2 = .ok (.if_icmp .lt 13, 3) := by decide +kernel
theorem dX7_isGap_5 : decode cX7_isGap 5 = .ok (.iload_n 0, 1) := by decide +kernel
theorem dX7_isGap_6 : decode cX7_isGap 6 = .ok (.bipush 50, 2) := by decide +kernel
theorem dX7_isGap_8 : decode cX7_isGap 8 = .ok (.if_icmp .gt 7, 3) := by decide +kernel
theorem dX7_isGap_11 : decode cX7_isGap 11 = .ok (.iconst 1, 1) := by decide +kernel
theorem dX7_isGap_12 : decode cX7_isGap 12 = .ok (.goto 4, 3) := by decide +kernel
theorem dX7_isGap_15 : decode cX7_isGap 15 = .ok (.iconst 0, 1) := by decide +kernel
theorem dX7_isGap_16 : decode cX7_isGap 16 = .ok (.ireturn, 1) := by decide +kernel
theorem dX7_isClock_0 : decode cX7_isClock 0 = .ok (.iload_n 0, 1) := by decide +kernel
theorem dX7_isClock_1 : decode cX7_isClock 1 = .ok (.invokestatic 212, 3) := by decide +kernel
theorem dX7_isClock_4 : decode cX7_isClock 4 = .ok (.ifCond .eq 10, 3) := by decide +kernel
theorem dX7_isClock_7 : decode cX7_isClock 7 = .ok (.iload_n 1, 1) := by decide +kernel
theorem dX7_isClock_8 : decode cX7_isClock 8 = .ok (.invokestatic 216, 3) := by decide +kernel
theorem dX7_isClock_11 : decode cX7_isClock 11 = .ok (.ifCond .ne 5, 3) := by decide +kernel
theorem dX7_isClock_14 : decode cX7_isClock 14 = .ok (.iconst 0, 1) := by decide +kernel
theorem dX7_isClock_15 : decode cX7_isClock 15 = .ok (.ireturn, 1) := by decide +kernel
theorem dX7_isClock_16 : decode cX7_isClock 16 = .ok (.iload_n 0, 1) := by decide +kernel
theorem dX7_isClock_17 : decode cX7_isClock 17 = .ok (.iconst 2, 1) := by decide +kernel
theorem dX7_isClock_18 : decode cX7_isClock 18 = .ok (.if_icmp .ne 28, 3) := by decide +kernel
theorem dX7_isClock_21 : decode cX7_isClock 21 = .ok (.iload_n 2, 1) := by decide +kernel
theorem dX7_isClock_22 : decode cX7_isClock 22 = .ok (.invokestatic 216, 3) := by decide +kernel
theorem dX7_isClock_25 : decode cX7_isClock 25 = .ok (.ifCond .eq 19, 3) := by decide +kernel
theorem dX7_isClock_28 : decode cX7_isClock 28 = .ok (.iload_n 3, 1) := by decide +kernel
theorem dX7_isClock_29 : decode cX7_isClock 29 = .ok (.invokestatic 216, 3) := by decide +kernel
theorem dX7_isClock_32 : decode cX7_isClock 32 = .ok (.ifCond .eq 12, 3) := by decide +kernel
theorem dX7_isClock_35 : decode cX7_isClock 35 = .ok (.iload 4, 2) := by decide +kernel
theorem dX7_isClock_37 : decode cX7_isClock 37 = .ok (.ifCond .ne 7, 3) := by decide +kernel
theorem dX7_isClock_40 : decode cX7_isClock 40 = .ok (.iconst 1, 1) := by decide +kernel
theorem dX7_isClock_41 : decode cX7_isClock 41 = .ok (.goto 4, 3) := by decide +kernel
theorem dX7_isClock_44 : decode cX7_isClock 44 = .ok (.iconst 0, 1) := by decide +kernel
theorem dX7_isClock_45 : decode cX7_isClock 45 = .ok (.ireturn, 1) := by decide +kernel
theorem dX7_isClock_46 : decode cX7_isClock 46 = .ok (.iload_n 1, 1) := by decide +kernel
theorem dX7_isClock_47 : decode cX7_isClock 47 = .ok (.iload_n 2, 1) := by decide +kernel
theorem dX7_isClock_48 : decode cX7_isClock 48 = .ok (.invokestatic 219, 3) := by decide +kernel
theorem dX7_isClock_51 : decode cX7_isClock 51 = .ok (.ifCond .eq 24, 3) := by decide +kernel
theorem dX7_isClock_54 : decode cX7_isClock 54 = .ok (.iload_n 2, 1) := by decide +kernel
theorem dX7_isClock_55 : decode cX7_isClock 55 = .ok (.iload_n 3, 1) := by decide +kernel
theorem dX7_isClock_56 : decode cX7_isClock 56 = .ok (.invokestatic 219, 3) := by decide +kernel
theorem dX7_isClock_59 : decode cX7_isClock 59 = .ok (.ifCond .eq 16, 3) := by decide +kernel
theorem dX7_isClock_62 : decode cX7_isClock 62 = .ok (.iload_n 3, 1) := by decide +kernel
theorem dX7_isClock_63 : decode cX7_isClock 63 = .ok (.iload 4, 2) := by decide +kernel
theorem dX7_isClock_65 : decode cX7_isClock 65 = .ok (.invokestatic 219, 3) := by decide +kernel
theorem dX7_isClock_68 : decode cX7_isClock 68 = .ok (.ifCond .eq 7, 3) := by decide +kernel
theorem dX7_isClock_71 : decode cX7_isClock 71 = .ok (.iconst 1, 1) := by decide +kernel
theorem dX7_isClock_72 : decode cX7_isClock 72 = .ok (.goto 4, 3) := by decide +kernel
theorem dX7_isClock_75 : decode cX7_isClock 75 = .ok (.iconst 0, 1) := by decide +kernel
theorem dX7_isClock_76 : decode cX7_isClock 76 = .ok (.ireturn, 1) := by decide +kernel
theorem dX7_mayFollow_0 : decode cX7_mayFollow 0 = .ok (.iload_n 1, 1) := by decide +kernel
theorem dX7_mayFollow_1 : decode cX7_mayFollow 1 = .ok (.ifCond .eq 14, 3) := by decide +kernel
theorem dX7_mayFollow_4 : decode cX7_mayFollow 4 = .ok (.iload_n 0, 1) := by decide +kernel
theorem dX7_mayFollow_5 : decode cX7_mayFollow 5 = .ok (.ifCond .eq 14, 3) := by decide +kernel
theorem dX7_mayFollow_8 : decode cX7_mayFollow 8 = .ok (.iload_n 1, 1) := by decide +kernel
theorem dX7_mayFollow_9 : decode cX7_mayFollow 9 = .ok (.invokestatic 216, 3) := by decide +kernel
theorem dX7_mayFollow_12 : decode cX7_mayFollow 12 = .ok (.ifCond .eq 7, 3) := by decide +kernel
theorem dX7_mayFollow_15 : decode cX7_mayFollow 15 = .ok (.iconst 1, 1) := by decide +kernel
theorem dX7_mayFollow_16 : decode cX7_mayFollow 16 = .ok (.goto 4, 3) := by decide +kernel
theorem dX7_mayFollow_19 : decode cX7_mayFollow 19 = .ok (.iconst 0, 1) := by decide +kernel
theorem dX7_mayFollow_20 : decode cX7_mayFollow 20 = .ok (.ireturn, 1) := by decide +kernel
theorem dJ6_bitCount_0f7a4_0 : decode cJ6_bitCount_0f7a4 0 = .ok (.iload_n 0, 1) := by decide +kernel
theorem dJ6_bitCount_0f7a4_1 : decode cJ6_bitCount_0f7a4 1 = .ok (.iload_n 0, 1) := by decide +kernel
theorem dJ6_bitCount_0f7a4_2 : decode cJ6_bitCount_0f7a4 2 = .ok (.iconst 1, 1) := by decide +kernel
theorem dJ6_bitCount_0f7a4_3 : decode cJ6_bitCount_0f7a4 3 = .ok (.iushr, 1) := by decide +kernel
theorem dJ6_bitCount_0f7a4_4 : decode cJ6_bitCount_0f7a4 4 = .ok (.ldc_w 265, 3) := by decide +kernel
theorem dJ6_bitCount_0f7a4_7 : decode cJ6_bitCount_0f7a4 7 = .ok (.iand, 1) := by decide +kernel
theorem dJ6_bitCount_0f7a4_8 : decode cJ6_bitCount_0f7a4 8 = .ok (.isub, 1) := by decide +kernel
theorem dJ6_bitCount_0f7a4_9 : decode cJ6_bitCount_0f7a4 9 = .ok (.istore_n 0, 1) := by decide +kernel
theorem dJ6_bitCount_0f7a4_10 : decode cJ6_bitCount_0f7a4 10 = .ok (.iload_n 0, 1) := by decide +kernel
theorem dJ6_bitCount_0f7a4_11 : decode cJ6_bitCount_0f7a4 11 = .ok (.ldc_w 266, 3) := by decide +kernel
theorem dJ6_bitCount_0f7a4_14 : decode cJ6_bitCount_0f7a4 14 = .ok (.iand, 1) := by decide +kernel
theorem dJ6_bitCount_0f7a4_15 : decode cJ6_bitCount_0f7a4 15 = .ok (.iload_n 0, 1) := by decide +kernel
theorem dJ6_bitCount_0f7a4_16 : decode cJ6_bitCount_0f7a4 16 = .ok (.iconst 2, 1) := by decide +kernel
theorem dJ6_bitCount_0f7a4_17 : decode cJ6_bitCount_0f7a4 17 = .ok (.iushr, 1) := by decide +kernel
theorem dJ6_bitCount_0f7a4_18 : decode cJ6_bitCount_0f7a4 18 = .ok (.ldc_w 266, 3) := by decide +kernel
theorem dJ6_bitCount_0f7a4_21 : decode cJ6_bitCount_0f7a4 21 = .ok (.iand, 1) := by decide +kernel
theorem dJ6_bitCount_0f7a4_22 : decode cJ6_bitCount_0f7a4 22 = .ok (.iadd, 1) := by decide +kernel
theorem dJ6_bitCount_0f7a4_23 : decode cJ6_bitCount_0f7a4 23 = .ok (.istore_n 0, 1) := by decide +kernel
theorem dJ6_bitCount_0f7a4_24 : decode cJ6_bitCount_0f7a4 24 = .ok (.iload_n 0, 1) := by decide +kernel
theorem dJ6_bitCount_0f7a4_25 : decode cJ6_bitCount_0f7a4 25 = .ok (.iload_n 0, 1) := by decide +kernel
theorem dJ6_bitCount_0f7a4_26 : decode cJ6_bitCount_0f7a4 26 = .ok (.iconst 4, 1) := by decide +kernel
theorem dJ6_bitCount_0f7a4_27 : decode cJ6_bitCount_0f7a4 27 = .ok (.iushr, 1) := by decide +kernel
theorem dJ6_bitCount_0f7a4_28 : decode cJ6_bitCount_0f7a4 28 = .ok (.iadd, 1) := by decide +kernel
theorem dJ6_bitCount_0f7a4_29 : decode cJ6_bitCount_0f7a4 29 = .ok (.ldc_w 267, 3) := by decide +kernel
theorem dJ6_bitCount_0f7a4_32 : decode cJ6_bitCount_0f7a4 32 = .ok (.iand, 1) := by decide +kernel
theorem dJ6_bitCount_0f7a4_33 : decode cJ6_bitCount_0f7a4 33 = .ok (.istore_n 0, 1) := by decide +kernel
theorem dJ6_bitCount_0f7a4_34 : decode cJ6_bitCount_0f7a4 34 = .ok (.iload_n 0, 1) := by decide +kernel
theorem dJ6_bitCount_0f7a4_35 : decode cJ6_bitCount_0f7a4 35 = .ok (.iload_n 0, 1) := by decide +kernel
theorem dJ6_bitCount_0f7a4_36 : decode cJ6_bitCount_0f7a4 36 = .ok (.bipush 8, 2) := by decide +kernel
theorem dJ6_bitCount_0f7a4_38 : decode cJ6_bitCount_0f7a4 38 = .ok (.iushr, 1) := by decide +kernel
theorem dJ6_bitCount_0f7a4_39 : decode cJ6_bitCount_0f7a4 39 = .ok (.iadd, 1) := by decide +kernel
theorem dJ6_bitCount_0f7a4_40 : decode cJ6_bitCount_0f7a4 40 = .ok (.istore_n 0, 1) := by decide +kernel
theorem dJ6_bitCount_0f7a4_41 : decode cJ6_bitCount_0f7a4 41 = .ok (.iload_n 0, 1) := by decide +kernel
theorem dJ6_bitCount_0f7a4_42 : decode cJ6_bitCount_0f7a4 42 = .ok (.iload_n 0, 1) := by decide +kernel
theorem dJ6_bitCount_0f7a4_43 : decode cJ6_bitCount_0f7a4 43 = .ok (.bipush 16, 2) := by decide +kernel
theorem dJ6_bitCount_0f7a4_45 : decode cJ6_bitCount_0f7a4 45 = .ok (.iushr, 1) := by decide +kernel
theorem dJ6_bitCount_0f7a4_46 : decode cJ6_bitCount_0f7a4 46 = .ok (.iadd, 1) := by decide +kernel
theorem dJ6_bitCount_0f7a4_47 : decode cJ6_bitCount_0f7a4 47 = .ok (.istore_n 0, 1) := by decide +kernel
theorem dJ6_bitCount_0f7a4_48 : decode cJ6_bitCount_0f7a4 48 = .ok (.iload_n 0, 1) := by decide +kernel
theorem dJ6_bitCount_0f7a4_49 : decode cJ6_bitCount_0f7a4 49 = .ok (.bipush 63, 2) := by decide +kernel
theorem dJ6_bitCount_0f7a4_51 : decode cJ6_bitCount_0f7a4 51 = .ok (.iand, 1) := by decide +kernel
theorem dJ6_bitCount_0f7a4_52 : decode cJ6_bitCount_0f7a4 52 = .ok (.ireturn, 1) := by decide +kernel
theorem dJ9_max_7cf53_0 : decode cJ9_max_7cf53 0 = .ok (.iload_n 0, 1) := by decide +kernel
theorem dJ9_max_7cf53_1 : decode cJ9_max_7cf53 1 = .ok (.iload_n 1, 1) := by decide +kernel
theorem dJ9_max_7cf53_2 : decode cJ9_max_7cf53 2 = .ok (.if_icmp .lt 7, 3) := by decide +kernel
theorem dJ9_max_7cf53_5 : decode cJ9_max_7cf53 5 = .ok (.iload_n 0, 1) := by decide +kernel
theorem dJ9_max_7cf53_6 : decode cJ9_max_7cf53 6 = .ok (.goto 4, 3) := by decide +kernel
theorem dJ9_max_7cf53_9 : decode cJ9_max_7cf53 9 = .ok (.iload_n 1, 1) := by decide +kernel
theorem dJ9_max_7cf53_10 : decode cJ9_max_7cf53 10 = .ok (.ireturn, 1) := by decide +kernel
theorem dL_cell_0 : decode cL_cell 0 = .ok (.iload_n 1, 1) := by decide +kernel
theorem dL_cell_1 : decode cL_cell 1 = .ok (.aload_n 0, 1) := by decide +kernel
theorem dL_cell_2 : decode cL_cell 2 = .ok (.arraylength, 1) := by decide +kernel
theorem dL_cell_3 : decode cL_cell 3 = .ok (.if_icmp .ge 9, 3) := by decide +kernel
theorem dL_cell_6 : decode cL_cell 6 = .ok (.aload_n 0, 1) := by decide +kernel
theorem dL_cell_7 : decode cL_cell 7 = .ok (.iload_n 1, 1) := by decide +kernel
theorem dL_cell_8 : decode cL_cell 8 = .ok (.iaload, 1) := by decide +kernel
theorem dL_cell_9 : decode cL_cell 9 = .ok (.goto 9, 3) := by decide +kernel
theorem dL_cell_12 : decode cL_cell 12 = .ok (.ldc 7, 2) := by decide +kernel
theorem dL_cell_14 : decode cL_cell 14 = .ok (.iload_n 1, 1) := by decide +kernel
theorem dL_cell_15 : decode cL_cell 15 = .ok (.iconst 3, 1) := by decide +kernel
theorem dL_cell_16 : decode cL_cell 16 = .ok (.iadd, 1) := by decide +kernel
theorem dL_cell_17 : decode cL_cell 17 = .ok (.imul, 1) := by decide +kernel
theorem dL_cell_18 : decode cL_cell 18 = .ok (.ireturn, 1) := by decide +kernel
theorem dL_low_0 : decode cL_low 0 = .ok (.iload_n 0, 1) := by decide +kernel
theorem dL_low_1 : decode cL_low 1 = .ok (.ldc 8, 2) := by decide +kernel
theorem dL_low_3 : decode cL_low 3 = .ok (.iand, 1) := by decide +kernel
theorem dL_low_4 : decode cL_low 4 = .ok (.iload_n 1, 1) := by decide +kernel
theorem dL_low_5 : decode cL_low 5 = .ok (.irem, 1) := by decide +kernel
theorem dL_low_6 : decode cL_low 6 = .ok (.ireturn, 1) := by decide +kernel
theorem dL_many_0 : decode cL_many 0 = .ok (.bipush 8, 2) := by decide +kernel
theorem dL_many_2 : decode cL_many 2 = .ok (.iload_n 1, 1) := by decide +kernel
theorem dL_many_3 : decode cL_many 3 = .ok (.imul, 1) := by decide +kernel
theorem dL_many_4 : decode cL_many 4 = .ok (.istore_n 2, 1) := by decide +kernel
theorem dL_many_5 : decode cL_many 5 = .ok (.aload_n 0, 1) := by decide +kernel
theorem dL_many_6 : decode cL_many 6 = .ok (.iload_n 2, 1) := by decide +kernel
theorem dL_many_7 : decode cL_many 7 = .ok (.iaload, 1) := by decide +kernel
theorem dL_many_8 : decode cL_many 8 = .ok (.iconst 2, 1) := by decide +kernel
theorem dL_many_9 : decode cL_many 9 = .ok (.if_icmp .ne 13, 3) := by decide +kernel
theorem dL_many_12 : decode cL_many 12 = .ok (.aload_n 0, 1) := by decide +kernel
theorem dL_many_13 : decode cL_many 13 = .ok (.iload_n 2, 1) := by decide +kernel
theorem dL_many_14 : decode cL_many 14 = .ok (.iconst 2, 1) := by decide +kernel
theorem dL_many_15 : decode cL_many 15 = .ok (.iadd, 1) := by decide +kernel
theorem dL_many_16 : decode cL_many 16 = .ok (.iaload, 1) := by decide +kernel
theorem dL_many_17 : decode cL_many 17 = .ok (.iconst 1, 1) := by decide +kernel
theorem dL_many_18 : decode cL_many 18 = .ok (.iadd, 1) := by decide +kernel
theorem dL_many_19 : decode cL_many 19 = .ok (.goto 40, 3) := by decide +kernel
theorem dL_many_22 : decode cL_many 22 = .ok (.aload_n 0, 1) := by decide +kernel
theorem dL_many_23 : decode cL_many 23 = .ok (.iload_n 2, 1) := by decide +kernel
theorem dL_many_24 : decode cL_many 24 = .ok (.iconst 2, 1) := by decide +kernel
theorem dL_many_25 : decode cL_many 25 = .ok (.iadd, 1) := by decide +kernel
theorem dL_many_26 : decode cL_many 26 = .ok (.iaload, 1) := by decide +kernel
theorem dL_many_27 : decode cL_many 27 = .ok (.ifCond .ne 7, 3) := by decide +kernel
theorem dL_many_30 : decode cL_many 30 = .ok (.iconst 1, 1) := by decide +kernel
theorem dL_many_31 : decode cL_many 31 = .ok (.goto 28, 3) := by decide +kernel
theorem dL_many_34 : decode cL_many 34 = .ok (.aload_n 0, 1) := by decide +kernel
theorem dL_many_35 : decode cL_many 35 = .ok (.iload_n 2, 1) := by decide +kernel
theorem dL_many_36 : decode cL_many 36 = .ok (.iconst 3, 1) := by decide +kernel
theorem dL_many_37 : decode cL_many 37 = .ok (.iadd, 1) := by decide +kernel
theorem dL_many_38 : decode cL_many 38 = .ok (.iaload, 1) := by decide +kernel
theorem dL_many_39 : decode cL_many 39 = .ok (.ifCond .ne 7, 3) := by decide +kernel
theorem dL_many_42 : decode cL_many 42 = .ok (.iconst 2, 1) := by decide +kernel
theorem dL_many_43 : decode cL_many 43 = .ok (.goto 16, 3) := by decide +kernel
theorem dL_many_46 : decode cL_many 46 = .ok (.aload_n 0, 1) := by decide +kernel
theorem dL_many_47 : decode cL_many 47 = .ok (.iload_n 2, 1) := by decide +kernel
theorem dL_many_48 : decode cL_many 48 = .ok (.iconst 4, 1) := by decide +kernel
theorem dL_many_49 : decode cL_many 49 = .ok (.iadd, 1) := by decide +kernel
theorem dL_many_50 : decode cL_many 50 = .ok (.iaload, 1) := by decide +kernel
theorem dL_many_51 : decode cL_many 51 = .ok (.ifCond .ne 7, 3) := by decide +kernel
theorem dL_many_54 : decode cL_many 54 = .ok (.iconst 3, 1) := by decide +kernel
theorem dL_many_55 : decode cL_many 55 = .ok (.goto 4, 3) := by decide +kernel
theorem dL_many_58 : decode cL_many 58 = .ok (.iconst 4, 1) := by decide +kernel
theorem dL_many_59 : decode cL_many 59 = .ok (.ireturn, 1) := by decide +kernel
theorem dL_gap_0 : decode cL_gap 0 = .ok (.bipush 8, 2) := by decide +kernel
theorem dL_gap_2 : decode cL_gap 2 = .ok (.iload_n 1, 1) := by decide +kernel
theorem dL_gap_3 : decode cL_gap 3 = .ok (.imul, 1) := by decide +kernel
theorem dL_gap_4 : decode cL_gap 4 = .ok (.istore_n 3, 1) := by decide +kernel
theorem dL_gap_5 : decode cL_gap 5 = .ok (.aload_n 0, 1) := by decide +kernel
theorem dL_gap_6 : decode cL_gap 6 = .ok (.iload_n 3, 1) := by decide +kernel
theorem dL_gap_7 : decode cL_gap 7 = .ok (.iaload, 1) := by decide +kernel
theorem dL_gap_8 : decode cL_gap 8 = .ok (.iconst 2, 1) := by decide +kernel
theorem dL_gap_9 : decode cL_gap 9 = .ok (.if_icmp .ne 24, 3) := by decide +kernel
theorem dL_gap_12 : decode cL_gap 12 = .ok (.aload_n 0, 1) := by decide +kernel
theorem dL_gap_13 : decode cL_gap 13 = .ok (.iload_n 3, 1) := by decide +kernel
theorem dL_gap_14 : decode cL_gap 14 = .ok (.iload_n 2, 1) := by decide +kernel
theorem dL_gap_15 : decode cL_gap 15 = .ok (.aload_n 0, 1) := by decide +kernel
theorem dL_gap_16 : decode cL_gap 16 = .ok (.iload_n 3, 1) := by decide +kernel
theorem dL_gap_17 : decode cL_gap 17 = .ok (.iconst 2, 1) := by decide +kernel
theorem dL_gap_18 : decode cL_gap 18 = .ok (.iadd, 1) := by decide +kernel
theorem dL_gap_19 : decode cL_gap 19 = .ok (.iaload, 1) := by decide +kernel
theorem dL_gap_20 : decode cL_gap 20 = .ok (.if_icmp .ne 7, 3) := by decide +kernel
theorem dL_gap_23 : decode cL_gap 23 = .ok (.iconst 3, 1) := by decide +kernel
theorem dL_gap_24 : decode cL_gap 24 = .ok (.goto 4, 3) := by decide +kernel
theorem dL_gap_27 : decode cL_gap 27 = .ok (.iconst 1, 1) := by decide +kernel
theorem dL_gap_28 : decode cL_gap 28 = .ok (.iadd, 1) := by decide +kernel
theorem dL_gap_29 : decode cL_gap 29 = .ok (.iaload, 1) := by decide +kernel
theorem dL_gap_30 : decode cL_gap 30 = .ok (.goto 10, 3) := by decide +kernel
theorem dL_gap_33 : decode cL_gap 33 = .ok (.aload_n 0, 1) := by decide +kernel
theorem dL_gap_34 : decode cL_gap 34 = .ok (.iload_n 3, 1) := by decide +kernel
theorem dL_gap_35 : decode cL_gap 35 = .ok (.iconst 1, 1) := by decide +kernel
theorem dL_gap_36 : decode cL_gap 36 = .ok (.iadd, 1) := by decide +kernel
theorem dL_gap_37 : decode cL_gap 37 = .ok (.iload_n 2, 1) := by decide +kernel
theorem dL_gap_38 : decode cL_gap 38 = .ok (.iadd, 1) := by decide +kernel
theorem dL_gap_39 : decode cL_gap 39 = .ok (.iaload, 1) := by decide +kernel
theorem dL_gap_40 : decode cL_gap 40 = .ok (.ireturn, 1) := by decide +kernel
theorem dL_begins_0 : decode cL_begins 0 = .ok (.aload_n 1, 1) := by decide +kernel
theorem dL_begins_1 : decode cL_begins 1 = .ok (.iload_n 2, 1) := by decide +kernel
theorem dL_begins_2 : decode cL_begins 2 = .ok (.invokestatic 9, 3) := by decide +kernel
theorem dL_begins_5 : decode cL_begins 5 = .ok (.istore_n 3, 1) := by decide +kernel
theorem dL_begins_6 : decode cL_begins 6 = .ok (.aload_n 1, 1) := by decide +kernel
theorem dL_begins_7 : decode cL_begins 7 = .ok (.bipush 8, 2) := by decide +kernel
theorem dL_begins_9 : decode cL_begins 9 = .ok (.iload_n 2, 1) := by decide +kernel
theorem dL_begins_10 : decode cL_begins 10 = .ok (.imul, 1) := by decide +kernel
theorem dL_begins_11 : decode cL_begins 11 = .ok (.iaload, 1) := by decide +kernel
theorem dL_begins_12 : decode cL_begins 12 = .ok (.iconst 1, 1) := by decide +kernel
theorem dL_begins_13 : decode cL_begins 13 = .ok (.if_icmp .ne 37, 3) := by decide +kernel
theorem dL_begins_16 : decode cL_begins 16 = .ok (.aload_n 0, 1) := by decide +kernel
theorem dL_begins_17 : decode cL_begins 17 = .ok (.iconst 3, 1) := by decide +kernel
theorem dL_begins_18 : decode cL_begins 18 = .ok (.sipush 421, 3) := by decide +kernel
theorem dL_begins_21 : decode cL_begins 21 = .ok (.aload_n 0, 1) := by decide +kernel
theorem dL_begins_22 : decode cL_begins 22 = .ok (.iconst 3, 1) := by decide +kernel
theorem dL_begins_23 : decode cL_begins 23 = .ok (.iaload, 1) := by decide +kernel
theorem dL_begins_24 : decode cL_begins 24 = .ok (.imul, 1) := by decide +kernel
theorem dL_begins_25 : decode cL_begins 25 = .ok (.sipush 1663, 3) := by decide +kernel
theorem dL_begins_28 : decode cL_begins 28 = .ok (.iadd, 1) := by decide +kernel
theorem dL_begins_29 : decode cL_begins 29 = .ok (.sipush 10000, 3) := by decide +kernel
theorem dL_begins_32 : decode cL_begins 32 = .ok (.irem, 1) := by decide +kernel
theorem dL_begins_33 : decode cL_begins 33 = .ok (.iastore, 1) := by decide +kernel
theorem dL_begins_34 : decode cL_begins 34 = .ok (.aload_n 1, 1) := by decide +kernel
theorem dL_begins_35 : decode cL_begins 35 = .ok (.bipush 8, 2) := by decide +kernel
theorem dL_begins_37 : decode cL_begins 37 = .ok (.iload_n 2, 1) := by decide +kernel
theorem dL_begins_38 : decode cL_begins 38 = .ok (.imul, 1) := by decide +kernel
theorem dL_begins_39 : decode cL_begins 39 = .ok (.iconst 5, 1) := by decide +kernel
theorem dL_begins_40 : decode cL_begins 40 = .ok (.iadd, 1) := by decide +kernel
theorem dL_begins_41 : decode cL_begins 41 = .ok (.aload_n 0, 1) := by decide +kernel
theorem dL_begins_42 : decode cL_begins 42 = .ok (.iconst 3, 1) := by decide +kernel
theorem dL_begins_43 : decode cL_begins 43 = .ok (.iaload, 1) := by decide +kernel
theorem dL_begins_44 : decode cL_begins 44 = .ok (.iload_n 3, 1) := by decide +kernel
theorem dL_begins_45 : decode cL_begins 45 = .ok (.irem, 1) := by decide +kernel
theorem dL_begins_46 : decode cL_begins 46 = .ok (.iastore, 1) := by decide +kernel
theorem dL_begins_47 : decode cL_begins 47 = .ok (.goto 39, 3) := by decide +kernel
theorem dL_begins_50 : decode cL_begins 50 = .ok (.aload_n 1, 1) := by decide +kernel
theorem dL_begins_51 : decode cL_begins 51 = .ok (.bipush 8, 2) := by decide +kernel
theorem dL_begins_53 : decode cL_begins 53 = .ok (.iload_n 2, 1) := by decide +kernel
theorem dL_begins_54 : decode cL_begins 54 = .ok (.imul, 1) := by decide +kernel
theorem dL_begins_55 : decode cL_begins 55 = .ok (.iconst 5, 1) := by decide +kernel
theorem dL_begins_56 : decode cL_begins 56 = .ok (.iadd, 1) := by decide +kernel
theorem dL_begins_57 : decode cL_begins 57 = .ok (.aload_n 1, 1) := by decide +kernel
theorem dL_begins_58 : decode cL_begins 58 = .ok (.bipush 8, 2) := by decide +kernel
theorem dL_begins_60 : decode cL_begins 60 = .ok (.iload_n 2, 1) := by decide +kernel
theorem dL_begins_61 : decode cL_begins 61 = .ok (.imul, 1) := by decide +kernel
theorem dL_begins_62 : decode cL_begins 62 = .ok (.iconst 5, 1) := by decide +kernel
theorem dL_begins_63 : decode cL_begins 63 = .ok (.iadd, 1) := by decide +kernel
theorem dL_begins_64 : decode cL_begins 64 = .ok (.iaload, 1) := by decide +kernel
theorem dL_begins_65 : decode cL_begins 65 = .ok (.iload_n 3, 1) := by decide +kernel
theorem dL_begins_66 : decode cL_begins 66 = .ok (.iconst 1, 1) := by decide +kernel
theorem dL_begins_67 : decode cL_begins 67 = .ok (.isub, 1) := by decide +kernel
theorem dL_begins_68 : decode cL_begins 68 = .ok (.if_icmp .ne 7, 3) := by decide +kernel
theorem dL_begins_71 : decode cL_begins 71 = .ok (.iconst 0, 1) := by decide +kernel
theorem dL_begins_72 : decode cL_begins 72 = .ok (.goto 13, 3) := by decide +kernel
theorem dL_begins_75 : decode cL_begins 75 = .ok (.aload_n 1, 1) := by decide +kernel
theorem dL_begins_76 : decode cL_begins 76 = .ok (.bipush 8, 2) := by decide +kernel
theorem dL_begins_78 : decode cL_begins 78 = .ok (.iload_n 2, 1) := by decide +kernel
theorem dL_begins_79 : decode cL_begins 79 = .ok (.imul, 1) := by decide +kernel
theorem dL_begins_80 : decode cL_begins 80 = .ok (.iconst 5, 1) := by decide +kernel
theorem dL_begins_81 : decode cL_begins 81 = .ok (.iadd, 1) := by decide +kernel
theorem dL_begins_82 : decode cL_begins 82 = .ok (.iaload, 1) := by decide +kernel
theorem dL_begins_83 : decode cL_begins 83 = .ok (.iconst 1, 1) := by decide +kernel
theorem dL_begins_84 : decode cL_begins 84 = .ok (.iadd, 1) := by decide +kernel
theorem dL_begins_85 : decode cL_begins 85 = .ok (.iastore, 1) := by decide +kernel
theorem dL_begins_86 : decode cL_begins 86 = .ok (.aload_n 1, 1) := by decide +kernel
theorem dL_begins_87 : decode cL_begins 87 = .ok (.bipush 8, 2) := by decide +kernel
theorem dL_begins_89 : decode cL_begins 89 = .ok (.iload_n 2, 1) := by decide +kernel
theorem dL_begins_90 : decode cL_begins 90 = .ok (.imul, 1) := by decide +kernel
theorem dL_begins_91 : decode cL_begins 91 = .ok (.bipush 6, 2) := by decide +kernel
theorem dL_begins_93 : decode cL_begins 93 = .ok (.iadd, 1) := by decide +kernel
theorem dL_begins_94 : decode cL_begins 94 = .ok (.aload_n 1, 1) := by decide +kernel
theorem dL_begins_95 : decode cL_begins 95 = .ok (.iload_n 2, 1) := by decide +kernel
theorem dL_begins_96 : decode cL_begins 96 = .ok (.aload_n 1, 1) := by decide +kernel
theorem dL_begins_97 : decode cL_begins 97 = .ok (.bipush 8, 2) := by decide +kernel
theorem dL_begins_99 : decode cL_begins 99 = .ok (.iload_n 2, 1) := by decide +kernel
theorem dL_begins_100 : decode cL_begins 100 = .ok (.imul, 1) := by decide +kernel
theorem dL_begins_101 : decode cL_begins 101 = .ok (.iconst 5, 1) := by decide +kernel
theorem dL_begins_102 : decode cL_begins 102 = .ok (.iadd, 1) := by decide +kernel
theorem dL_begins_103 : decode cL_begins 103 = .ok (.iaload, 1) := by decide +kernel
theorem dL_begins_104 : decode cL_begins 104 = .ok (.invokestatic 15, 3) := by decide +kernel
theorem dL_begins_107 : decode cL_begins 107 = .ok (.iastore, 1) := by decide +kernel
theorem dL_begins_108 : decode cL_begins 108 = .ok (.aload_n 1, 1) := by decide +kernel
theorem dL_begins_109 : decode cL_begins 109 = .ok (.bipush 8, 2) := by decide +kernel
theorem dL_begins_111 : decode cL_begins 111 = .ok (.iload_n 2, 1) := by decide +kernel
theorem dL_begins_112 : decode cL_begins 112 = .ok (.imul, 1) := by decide +kernel
theorem dL_begins_113 : decode cL_begins 113 = .ok (.bipush 7, 2) := by decide +kernel
theorem dL_begins_115 : decode cL_begins 115 = .ok (.iadd, 1) := by decide +kernel
theorem dL_begins_116 : decode cL_begins 116 = .ok (.iconst 0, 1) := by decide +kernel
theorem dL_begins_117 : decode cL_begins 117 = .ok (.iastore, 1) := by decide +kernel
theorem dL_begins_118 : decode cL_begins 118 = .ok (.return_, 1) := by decide +kernel
theorem dL_bitsOf_0 : decode cL_bitsOf 0 = .ok (.iconst 0, 1) := by decide +kernel
theorem dL_bitsOf_1 : decode cL_bitsOf 1 = .ok (.istore_n 1, 1) := by decide +kernel
theorem dL_bitsOf_2 : decode cL_bitsOf 2 = .ok (.iload_n 0, 1) := by decide +kernel
theorem dL_bitsOf_3 : decode cL_bitsOf 3 = .ok (.istore_n 2, 1) := by decide +kernel
theorem dL_bitsOf_4 : decode cL_bitsOf 4 = .ok (.iload_n 2, 1) := by decide +kernel
theorem dL_bitsOf_5 : decode cL_bitsOf 5 = .ok (.ifCond .le 16, 3) := by decide +kernel
theorem dL_bitsOf_8 : decode cL_bitsOf 8 = .ok (.iload_n 1, 1) := by decide +kernel
theorem dL_bitsOf_9 : decode cL_bitsOf 9 = .ok (.iload_n 2, 1) := by decide +kernel
theorem dL_bitsOf_10 : decode cL_bitsOf 10 = .ok (.iconst 1, 1) := by decide +kernel
theorem dL_bitsOf_11 : decode cL_bitsOf 11 = .ok (.iand, 1) := by decide +kernel
theorem dL_bitsOf_12 : decode cL_bitsOf 12 = .ok (.iadd, 1) := by decide +kernel
theorem dL_bitsOf_13 : decode cL_bitsOf 13 = .ok (.istore_n 1, 1) := by decide +kernel
theorem dL_bitsOf_14 : decode cL_bitsOf 14 = .ok (.iload_n 2, 1) := by decide +kernel
theorem dL_bitsOf_15 : decode cL_bitsOf 15 = .ok (.iconst 1, 1) := by decide +kernel
theorem dL_bitsOf_16 : decode cL_bitsOf 16 = .ok (.ishr, 1) := by decide +kernel
theorem dL_bitsOf_17 : decode cL_bitsOf 17 = .ok (.istore_n 2, 1) := by decide +kernel
theorem dL_bitsOf_18 : decode cL_bitsOf 18 = .ok (.goto (-14), 3) := by decide +kernel
theorem dL_bitsOf_21 : decode cL_bitsOf 21 = .ok (.iload_n 1, 1) := by decide +kernel
theorem dL_bitsOf_22 : decode cL_bitsOf 22 = .ok (.ireturn, 1) := by decide +kernel
theorem dL_ticks_0 : decode cL_ticks 0 = .ok (.iconst 0, 1) := by decide +kernel
theorem dL_ticks_1 : decode cL_ticks 1 = .ok (.istore 4, 2) := by decide +kernel
theorem dL_ticks_3 : decode cL_ticks 3 = .ok (.iconst 0, 1) := by decide +kernel
theorem dL_ticks_4 : decode cL_ticks 4 = .ok (.istore 5, 2) := by decide +kernel
theorem dL_ticks_6 : decode cL_ticks 6 = .ok (.iload 5, 2) := by decide +kernel
theorem dL_ticks_8 : decode cL_ticks 8 = .ok (.aload_n 0, 1) := by decide +kernel
theorem dL_ticks_9 : decode cL_ticks 9 = .ok (.iconst 0, 1) := by decide +kernel
theorem dL_ticks_10 : decode cL_ticks 10 = .ok (.iaload, 1) := by decide +kernel
theorem dL_ticks_11 : decode cL_ticks 11 = .ok (.if_icmp .ge 145, 3) := by decide +kernel
theorem dL_ticks_14 : decode cL_ticks 14 = .ok (.aload_n 1, 1) := by decide +kernel
theorem dL_ticks_15 : decode cL_ticks 15 = .ok (.bipush 8, 2) := by decide +kernel
theorem dL_ticks_17 : decode cL_ticks 17 = .ok (.iload 5, 2) := by decide +kernel
theorem dL_ticks_19 : decode cL_ticks 19 = .ok (.imul, 1) := by decide +kernel
theorem dL_ticks_20 : decode cL_ticks 20 = .ok (.bipush 7, 2) := by decide +kernel
theorem dL_ticks_22 : decode cL_ticks 22 = .ok (.iadd, 1) := by decide +kernel
theorem dL_ticks_23 : decode cL_ticks 23 = .ok (.dup2, 1) := by decide +kernel
theorem dL_ticks_24 : decode cL_ticks 24 = .ok (.iaload, 1) := by decide +kernel
theorem dL_ticks_25 : decode cL_ticks 25 = .ok (.iconst 1, 1) := by decide +kernel
theorem dL_ticks_26 : decode cL_ticks 26 = .ok (.iadd, 1) := by decide +kernel
theorem dL_ticks_27 : decode cL_ticks 27 = .ok (.iastore, 1) := by decide +kernel
theorem dL_ticks_28 : decode cL_ticks 28 = .ok (.aload_n 1, 1) := by decide +kernel
theorem dL_ticks_29 : decode cL_ticks 29 = .ok (.bipush 8, 2) := by decide +kernel
theorem dL_ticks_31 : decode cL_ticks 31 = .ok (.iload 5, 2) := by decide +kernel
theorem dL_ticks_33 : decode cL_ticks 33 = .ok (.imul, 1) := by decide +kernel
theorem dL_ticks_34 : decode cL_ticks 34 = .ok (.bipush 6, 2) := by decide +kernel
theorem dL_ticks_36 : decode cL_ticks 36 = .ok (.iadd, 1) := by decide +kernel
theorem dL_ticks_37 : decode cL_ticks 37 = .ok (.iaload, 1) := by decide +kernel
theorem dL_ticks_38 : decode cL_ticks 38 = .ok (.istore 6, 2) := by decide +kernel
theorem dL_ticks_40 : decode cL_ticks 40 = .ok (.aload_n 1, 1) := by decide +kernel
theorem dL_ticks_41 : decode cL_ticks 41 = .ok (.bipush 8, 2) := by decide +kernel
theorem dL_ticks_43 : decode cL_ticks 43 = .ok (.iload 5, 2) := by decide +kernel
theorem dL_ticks_45 : decode cL_ticks 45 = .ok (.imul, 1) := by decide +kernel
theorem dL_ticks_46 : decode cL_ticks 46 = .ok (.bipush 7, 2) := by decide +kernel
theorem dL_ticks_48 : decode cL_ticks 48 = .ok (.iadd, 1) := by decide +kernel
theorem dL_ticks_49 : decode cL_ticks 49 = .ok (.iaload, 1) := by decide +kernel
theorem dL_ticks_50 : decode cL_ticks 50 = .ok (.iload 6, 2) := by decide +kernel
theorem dL_ticks_52 : decode cL_ticks 52 = .ok (.if_icmp .ne 98, 3) := by decide +kernel
theorem dL_ticks_55 : decode cL_ticks 55 = .ok (.iload 4, 2) := by decide +kernel
theorem dL_ticks_57 : decode cL_ticks 57 = .ok (.iconst 1, 1) := by decide +kernel
theorem dL_ticks_58 : decode cL_ticks 58 = .ok (.iload 5, 2) := by decide +kernel
theorem dL_ticks_60 : decode cL_ticks 60 = .ok (.ishl, 1) := by decide +kernel
theorem dL_ticks_61 : decode cL_ticks 61 = .ok (.iadd, 1) := by decide +kernel
theorem dL_ticks_62 : decode cL_ticks 62 = .ok (.istore 4, 2) := by decide +kernel
theorem dL_ticks_64 : decode cL_ticks 64 = .ok (.aload_n 2, 1) := by decide +kernel
theorem dL_ticks_65 : decode cL_ticks 65 = .ok (.bipush 7, 2) := by decide +kernel
theorem dL_ticks_67 : decode cL_ticks 67 = .ok (.iload 5, 2) := by decide +kernel
theorem dL_ticks_69 : decode cL_ticks 69 = .ok (.imul, 1) := by decide +kernel
theorem dL_ticks_70 : decode cL_ticks 70 = .ok (.dup2, 1) := by decide +kernel
theorem dL_ticks_71 : decode cL_ticks 71 = .ok (.iaload, 1) := by decide +kernel
theorem dL_ticks_72 : decode cL_ticks 72 = .ok (.iconst 1, 1) := by decide +kernel
theorem dL_ticks_73 : decode cL_ticks 73 = .ok (.iadd, 1) := by decide +kernel
theorem dL_ticks_74 : decode cL_ticks 74 = .ok (.iastore, 1) := by decide +kernel
theorem dL_ticks_75 : decode cL_ticks 75 = .ok (.aload_n 2, 1) := by decide +kernel
theorem dL_ticks_76 : decode cL_ticks 76 = .ok (.bipush 7, 2) := by decide +kernel
theorem dL_ticks_78 : decode cL_ticks 78 = .ok (.iload 5, 2) := by decide +kernel
theorem dL_ticks_80 : decode cL_ticks 80 = .ok (.imul, 1) := by decide +kernel
theorem dL_ticks_81 : decode cL_ticks 81 = .ok (.iconst 1, 1) := by decide +kernel
theorem dL_ticks_82 : decode cL_ticks 82 = .ok (.iadd, 1) := by decide +kernel
theorem dL_ticks_83 : decode cL_ticks 83 = .ok (.dup2, 1) := by decide +kernel
theorem dL_ticks_84 : decode cL_ticks 84 = .ok (.iaload, 1) := by decide +kernel
theorem dL_ticks_85 : decode cL_ticks 85 = .ok (.iload 6, 2) := by decide +kernel
theorem dL_ticks_87 : decode cL_ticks 87 = .ok (.iadd, 1) := by decide +kernel
theorem dL_ticks_88 : decode cL_ticks 88 = .ok (.iastore, 1) := by decide +kernel
theorem dL_ticks_89 : decode cL_ticks 89 = .ok (.aload_n 2, 1) := by decide +kernel
theorem dL_ticks_90 : decode cL_ticks 90 = .ok (.bipush 7, 2) := by decide +kernel
theorem dL_ticks_92 : decode cL_ticks 92 = .ok (.iload 5, 2) := by decide +kernel
theorem dL_ticks_94 : decode cL_ticks 94 = .ok (.imul, 1) := by decide +kernel
theorem dL_ticks_95 : decode cL_ticks 95 = .ok (.iconst 2, 1) := by decide +kernel
theorem dL_ticks_96 : decode cL_ticks 96 = .ok (.iadd, 1) := by decide +kernel
theorem dL_ticks_97 : decode cL_ticks 97 = .ok (.dup2, 1) := by decide +kernel
theorem dL_ticks_98 : decode cL_ticks 98 = .ok (.iaload, 1) := by decide +kernel
theorem dL_ticks_99 : decode cL_ticks 99 = .ok (.iload 6, 2) := by decide +kernel
theorem dL_ticks_101 : decode cL_ticks 101 = .ok (.iload 6, 2) := by decide +kernel
theorem dL_ticks_103 : decode cL_ticks 103 = .ok (.imul, 1) := by decide +kernel
theorem dL_ticks_104 : decode cL_ticks 104 = .ok (.iadd, 1) := by decide +kernel
theorem dL_ticks_105 : decode cL_ticks 105 = .ok (.iastore, 1) := by decide +kernel
theorem dL_ticks_106 : decode cL_ticks 106 = .ok (.aload_n 2, 1) := by decide +kernel
theorem dL_ticks_107 : decode cL_ticks 107 = .ok (.bipush 7, 2) := by decide +kernel
theorem dL_ticks_109 : decode cL_ticks 109 = .ok (.iload 5, 2) := by decide +kernel
theorem dL_ticks_111 : decode cL_ticks 111 = .ok (.imul, 1) := by decide +kernel
theorem dL_ticks_112 : decode cL_ticks 112 = .ok (.iconst 3, 1) := by decide +kernel
theorem dL_ticks_113 : decode cL_ticks 113 = .ok (.iadd, 1) := by decide +kernel
theorem dL_ticks_114 : decode cL_ticks 114 = .ok (.iload 6, 2) := by decide +kernel
theorem dL_ticks_116 : decode cL_ticks 116 = .ok (.aload_n 2, 1) := by decide +kernel
theorem dL_ticks_117 : decode cL_ticks 117 = .ok (.bipush 7, 2) := by decide +kernel
theorem dL_ticks_119 : decode cL_ticks 119 = .ok (.iload 5, 2) := by decide +kernel
theorem dL_ticks_121 : decode cL_ticks 121 = .ok (.imul, 1) := by decide +kernel
theorem dL_ticks_122 : decode cL_ticks 122 = .ok (.iconst 3, 1) := by decide +kernel
theorem dL_ticks_123 : decode cL_ticks 123 = .ok (.iadd, 1) := by decide +kernel
theorem dL_ticks_124 : decode cL_ticks 124 = .ok (.iaload, 1) := by decide +kernel
theorem dL_ticks_125 : decode cL_ticks 125 = .ok (.if_icmp .le 8, 3) := by decide +kernel
theorem dL_ticks_128 : decode cL_ticks 128 = .ok (.iload 6, 2) := by decide +kernel
theorem dL_ticks_130 : decode cL_ticks 130 = .ok (.goto 12, 3) := by decide +kernel
theorem dL_ticks_133 : decode cL_ticks 133 = .ok (.aload_n 2, 1) := by decide +kernel
theorem dL_ticks_134 : decode cL_ticks 134 = .ok (.bipush 7, 2) := by decide +kernel
theorem dL_ticks_136 : decode cL_ticks 136 = .ok (.iload 5, 2) := by decide +kernel
theorem dL_ticks_138 : decode cL_ticks 138 = .ok (.imul, 1) := by decide +kernel
theorem dL_ticks_139 : decode cL_ticks 139 = .ok (.iconst 3, 1) := by decide +kernel
theorem dL_ticks_140 : decode cL_ticks 140 = .ok (.iadd, 1) := by decide +kernel
theorem dL_ticks_141 : decode cL_ticks 141 = .ok (.iaload, 1) := by decide +kernel
theorem dL_ticks_142 : decode cL_ticks 142 = .ok (.iastore, 1) := by decide +kernel
theorem dL_ticks_143 : decode cL_ticks 143 = .ok (.aload_n 0, 1) := by decide +kernel
theorem dL_ticks_144 : decode cL_ticks 144 = .ok (.aload_n 1, 1) := by decide +kernel
theorem dL_ticks_145 : decode cL_ticks 145 = .ok (.iload 5, 2) := by decide +kernel
theorem dL_ticks_147 : decode cL_ticks 147 = .ok (.invokestatic 19, 3) := by decide +kernel
theorem dL_ticks_150 : decode cL_ticks 150 = .ok (.iinc 5 1, 3) := by decide +kernel
theorem dL_ticks_153 : decode cL_ticks 153 = .ok (.goto (-147), 3) := by decide +kernel
theorem dL_ticks_156 : decode cL_ticks 156 = .ok (.iconst 0, 1) := by decide +kernel
theorem dL_ticks_157 : decode cL_ticks 157 = .ok (.istore 5, 2) := by decide +kernel
theorem dL_ticks_159 : decode cL_ticks 159 = .ok (.iload 5, 2) := by decide +kernel
theorem dL_ticks_161 : decode cL_ticks 161 = .ok (.iconst 4, 1) := by decide +kernel
theorem dL_ticks_162 : decode cL_ticks 162 = .ok (.aload_n 0, 1) := by decide +kernel
theorem dL_ticks_163 : decode cL_ticks 163 = .ok (.iconst 1, 1) := by decide +kernel
theorem dL_ticks_164 : decode cL_ticks 164 = .ok (.iaload, 1) := by decide +kernel
theorem dL_ticks_165 : decode cL_ticks 165 = .ok (.imul, 1) := by decide +kernel
theorem dL_ticks_166 : decode cL_ticks 166 = .ok (.if_icmp .ge 54, 3) := by decide +kernel
theorem dL_ticks_169 : decode cL_ticks 169 = .ok (.iload 4, 2) := by decide +kernel
theorem dL_ticks_171 : decode cL_ticks 171 = .ok (.aload_n 3, 1) := by decide +kernel
theorem dL_ticks_172 : decode cL_ticks 172 = .ok (.iload 5, 2) := by decide +kernel
theorem dL_ticks_174 : decode cL_ticks 174 = .ok (.iconst 1, 1) := by decide +kernel
theorem dL_ticks_175 : decode cL_ticks 175 = .ok (.iadd, 1) := by decide +kernel
theorem dL_ticks_176 : decode cL_ticks 176 = .ok (.iaload, 1) := by decide +kernel
theorem dL_ticks_177 : decode cL_ticks 177 = .ok (.iand, 1) := by decide +kernel
theorem dL_ticks_178 : decode cL_ticks 178 = .ok (.invokestatic 23, 3) := by decide +kernel
theorem dL_ticks_181 : decode cL_ticks 181 = .ok (.istore 6, 2) := by decide +kernel
theorem dL_ticks_183 : decode cL_ticks 183 = .ok (.aload_n 3, 1) := by decide +kernel
theorem dL_ticks_184 : decode cL_ticks 184 = .ok (.iload 5, 2) := by decide +kernel
theorem dL_ticks_186 : decode cL_ticks 186 = .ok (.iconst 2, 1) := by decide +kernel
theorem dL_ticks_187 : decode cL_ticks 187 = .ok (.iadd, 1) := by decide +kernel
theorem dL_ticks_188 : decode cL_ticks 188 = .ok (.dup2, 1) := by decide +kernel
theorem dL_ticks_189 : decode cL_ticks 189 = .ok (.iaload, 1) := by decide +kernel
theorem dL_ticks_190 : decode cL_ticks 190 = .ok (.iload 6, 2) := by decide +kernel
theorem dL_ticks_192 : decode cL_ticks 192 = .ok (.iadd, 1) := by decide +kernel
theorem dL_ticks_193 : decode cL_ticks 193 = .ok (.iastore, 1) := by decide +kernel
theorem dL_ticks_194 : decode cL_ticks 194 = .ok (.aload_n 3, 1) := by decide +kernel
theorem dL_ticks_195 : decode cL_ticks 195 = .ok (.iload 5, 2) := by decide +kernel
theorem dL_ticks_197 : decode cL_ticks 197 = .ok (.iconst 3, 1) := by decide +kernel
theorem dL_ticks_198 : decode cL_ticks 198 = .ok (.iadd, 1) := by decide +kernel
theorem dL_ticks_199 : decode cL_ticks 199 = .ok (.dup2, 1) := by decide +kernel
theorem dL_ticks_200 : decode cL_ticks 200 = .ok (.iaload, 1) := by decide +kernel
theorem dL_ticks_201 : decode cL_ticks 201 = .ok (.iload 6, 2) := by decide +kernel
theorem dL_ticks_203 : decode cL_ticks 203 = .ok (.iconst 2, 1) := by decide +kernel
theorem dL_ticks_204 : decode cL_ticks 204 = .ok (.if_icmp .ge 7, 3) := by decide +kernel
theorem dL_ticks_207 : decode cL_ticks 207 = .ok (.iconst 0, 1) := by decide +kernel
theorem dL_ticks_208 : decode cL_ticks 208 = .ok (.goto 4, 3) := by decide +kernel
theorem dL_ticks_211 : decode cL_ticks 211 = .ok (.iconst 1, 1) := by decide +kernel
theorem dL_ticks_212 : decode cL_ticks 212 = .ok (.iadd, 1) := by decide +kernel
theorem dL_ticks_213 : decode cL_ticks 213 = .ok (.iastore, 1) := by decide +kernel
theorem dL_ticks_214 : decode cL_ticks 214 = .ok (.iinc 5 4, 3) := by decide +kernel
theorem dL_ticks_217 : decode cL_ticks 217 = .ok (.goto (-58), 3) := by decide +kernel
theorem dL_ticks_220 : decode cL_ticks 220 = .ok (.aload_n 0, 1) := by decide +kernel
theorem dL_ticks_221 : decode cL_ticks 221 = .ok (.iconst 2, 1) := by decide +kernel
theorem dL_ticks_222 : decode cL_ticks 222 = .ok (.dup2, 1) := by decide +kernel
theorem dL_ticks_223 : decode cL_ticks 223 = .ok (.iaload, 1) := by decide +kernel
theorem dL_ticks_224 : decode cL_ticks 224 = .ok (.iconst 1, 1) := by decide +kernel
theorem dL_ticks_225 : decode cL_ticks 225 = .ok (.iadd, 1) := by decide +kernel
theorem dL_ticks_226 : decode cL_ticks 226 = .ok (.iastore, 1) := by decide +kernel
theorem dL_ticks_227 : decode cL_ticks 227 = .ok (.iload 4, 2) := by decide +kernel
theorem dL_ticks_229 : decode cL_ticks 229 = .ok (.invokestatic 23, 3) := by decide +kernel
theorem dL_ticks_232 : decode cL_ticks 232 = .ok (.ireturn, 1) := by decide +kernel
theorem dL_rest_0 : decode cL_rest 0 = .ok (.aload_n 0, 1) := by decide +kernel
theorem dL_rest_1 : decode cL_rest 1 = .ok (.bipush 8, 2) := by decide +kernel
theorem dL_rest_3 : decode cL_rest 3 = .ok (.iload_n 1, 1) := by decide +kernel
theorem dL_rest_4 : decode cL_rest 4 = .ok (.imul, 1) := by decide +kernel
theorem dL_rest_5 : decode cL_rest 5 = .ok (.bipush 6, 2) := by decide +kernel
theorem dL_rest_7 : decode cL_rest 7 = .ok (.iadd, 1) := by decide +kernel
theorem dL_rest_8 : decode cL_rest 8 = .ok (.iaload, 1) := by decide +kernel
theorem dL_rest_9 : decode cL_rest 9 = .ok (.aload_n 0, 1) := by decide +kernel
theorem dL_rest_10 : decode cL_rest 10 = .ok (.bipush 8, 2) := by decide +kernel
theorem dL_rest_12 : decode cL_rest 12 = .ok (.iload_n 1, 1) := by decide +kernel
theorem dL_rest_13 : decode cL_rest 13 = .ok (.imul, 1) := by decide +kernel
theorem dL_rest_14 : decode cL_rest 14 = .ok (.bipush 7, 2) := by decide +kernel
theorem dL_rest_16 : decode cL_rest 16 = .ok (.iadd, 1) := by decide +kernel
theorem dL_rest_17 : decode cL_rest 17 = .ok (.iaload, 1) := by decide +kernel
theorem dL_rest_18 : decode cL_rest 18 = .ok (.isub, 1) := by decide +kernel
theorem dL_rest_19 : decode cL_rest 19 = .ok (.ireturn, 1) := by decide +kernel
theorem dL_comes_0 : decode cL_comes 0 = .ok (.iload 4, 2) := by decide +kernel
theorem dL_comes_2 : decode cL_comes 2 = .ok (.iconst 3, 1) := by decide +kernel
theorem dL_comes_3 : decode cL_comes 3 = .ok (.irem, 1) := by decide +kernel
theorem dL_comes_4 : decode cL_comes 4 = .ok (.istore 5, 2) := by decide +kernel
theorem dL_comes_6 : decode cL_comes 6 = .ok (.iconst 1, 1) := by decide +kernel
theorem dL_comes_7 : decode cL_comes 7 = .ok (.iload 4, 2) := by decide +kernel
theorem dL_comes_9 : decode cL_comes 9 = .ok (.iconst 3, 1) := by decide +kernel
theorem dL_comes_10 : decode cL_comes 10 = .ok (.idiv, 1) := by decide +kernel
theorem dL_comes_11 : decode cL_comes 11 = .ok (.iconst 4, 1) := by decide +kernel
theorem dL_comes_12 : decode cL_comes 12 = .ok (.irem, 1) := by decide +kernel
theorem dL_comes_13 : decode cL_comes 13 = .ok (.iadd, 1) := by decide +kernel
theorem dL_comes_14 : decode cL_comes 14 = .ok (.istore 6, 2) := by decide +kernel
theorem dL_comes_16 : decode cL_comes 16 = .ok (.iconst 1, 1) := by decide +kernel
theorem dL_comes_17 : decode cL_comes 17 = .ok (.iload 4, 2) := by decide +kernel
theorem dL_comes_19 : decode cL_comes 19 = .ok (.bipush 12, 2) := by decide +kernel
theorem dL_comes_21 : decode cL_comes 21 = .ok (.idiv, 1) := by decide +kernel
theorem dL_comes_22 : decode cL_comes 22 = .ok (.iload 4, 2) := by decide +kernel
theorem dL_comes_24 : decode cL_comes 24 = .ok (.iconst 5, 1) := by decide +kernel
theorem dL_comes_25 : decode cL_comes 25 = .ok (.irem, 1) := by decide +kernel
theorem dL_comes_26 : decode cL_comes 26 = .ok (.ifCond .ne 8, 3) := by decide +kernel
theorem dL_comes_29 : decode cL_comes 29 = .ok (.bipush 50, 2) := by decide +kernel
theorem dL_comes_31 : decode cL_comes 31 = .ok (.goto 5, 3) := by decide +kernel
theorem dL_comes_34 : decode cL_comes 34 = .ok (.bipush 9, 2) := by decide +kernel
theorem dL_comes_36 : decode cL_comes 36 = .ok (.irem, 1) := by decide +kernel
theorem dL_comes_37 : decode cL_comes 37 = .ok (.iadd, 1) := by decide +kernel
theorem dL_comes_38 : decode cL_comes 38 = .ok (.istore 7, 2) := by decide +kernel
theorem dL_comes_40 : decode cL_comes 40 = .ok (.iload 5, 2) := by decide +kernel
theorem dL_comes_42 : decode cL_comes 42 = .ok (.iconst 2, 1) := by decide +kernel
theorem dL_comes_43 : decode cL_comes 43 = .ok (.if_icmp .eq 9, 3) := by decide +kernel
theorem dL_comes_46 : decode cL_comes 46 = .ok (.iload 6, 2) := by decide +kernel
theorem dL_comes_48 : decode cL_comes 48 = .ok (.iconst 1, 1) := by decide +kernel
theorem dL_comes_49 : decode cL_comes 49 = .ok (.if_icmp .le 28, 3) := by decide +kernel
theorem dL_comes_52 : decode cL_comes 52 = .ok (.iconst 1, 1) := by decide +kernel
theorem dL_comes_53 : decode cL_comes 53 = .ok (.iload 4, 2) := by decide +kernel
theorem dL_comes_55 : decode cL_comes 55 = .ok (.bipush 7, 2) := by decide +kernel
theorem dL_comes_57 : decode cL_comes 57 = .ok (.idiv, 1) := by decide +kernel
theorem dL_comes_58 : decode cL_comes 58 = .ok (.iload 4, 2) := by decide +kernel
theorem dL_comes_60 : decode cL_comes 60 = .ok (.iconst 4, 1) := by decide +kernel
theorem dL_comes_61 : decode cL_comes 61 = .ok (.irem, 1) := by decide +kernel
theorem dL_comes_62 : decode cL_comes 62 = .ok (.ifCond .ne 8, 3) := by decide +kernel
theorem dL_comes_65 : decode cL_comes 65 = .ok (.bipush 50, 2) := by decide +kernel
theorem dL_comes_67 : decode cL_comes 67 = .ok (.goto 5, 3) := by decide +kernel
theorem dL_comes_70 : decode cL_comes 70 = .ok (.bipush 6, 2) := by decide +kernel
theorem dL_comes_72 : decode cL_comes 72 = .ok (.irem, 1) := by decide +kernel
theorem dL_comes_73 : decode cL_comes 73 = .ok (.iadd, 1) := by decide +kernel
theorem dL_comes_74 : decode cL_comes 74 = .ok (.goto 4, 3) := by decide +kernel
theorem dL_comes_77 : decode cL_comes 77 = .ok (.iconst 0, 1) := by decide +kernel
theorem dL_comes_78 : decode cL_comes 78 = .ok (.istore 8, 2) := by decide +kernel
theorem dL_comes_80 : decode cL_comes 80 = .ok (.iload 5, 2) := by decide +kernel
theorem dL_comes_82 : decode cL_comes 82 = .ok (.iconst 2, 1) := by decide +kernel
theorem dL_comes_83 : decode cL_comes 83 = .ok (.if_icmp .ge 22, 3) := by decide +kernel
theorem dL_comes_86 : decode cL_comes 86 = .ok (.iload 6, 2) := by decide +kernel
theorem dL_comes_88 : decode cL_comes 88 = .ok (.iconst 3, 1) := by decide +kernel
theorem dL_comes_89 : decode cL_comes 89 = .ok (.if_icmp .le 16, 3) := by decide +kernel
theorem dL_comes_92 : decode cL_comes 92 = .ok (.iconst 1, 1) := by decide +kernel
theorem dL_comes_93 : decode cL_comes 93 = .ok (.iload 4, 2) := by decide +kernel
theorem dL_comes_95 : decode cL_comes 95 = .ok (.bipush 11, 2) := by decide +kernel
theorem dL_comes_97 : decode cL_comes 97 = .ok (.idiv, 1) := by decide +kernel
theorem dL_comes_98 : decode cL_comes 98 = .ok (.bipush 20, 2) := by decide +kernel
theorem dL_comes_100 : decode cL_comes 100 = .ok (.irem, 1) := by decide +kernel
theorem dL_comes_101 : decode cL_comes 101 = .ok (.iadd, 1) := by decide +kernel
theorem dL_comes_102 : decode cL_comes 102 = .ok (.goto 4, 3) := by decide +kernel
theorem dL_comes_105 : decode cL_comes 105 = .ok (.iconst 0, 1) := by decide +kernel
theorem dL_comes_106 : decode cL_comes 106 = .ok (.istore 9, 2) := by decide +kernel
theorem dL_comes_108 : decode cL_comes 108 = .ok (.iload 5, 2) := by decide +kernel
theorem dL_comes_110 : decode cL_comes 110 = .ok (.iconst 2, 1) := by decide +kernel
theorem dL_comes_111 : decode cL_comes 111 = .ok (.if_icmp .eq 9, 3) := by decide +kernel
theorem dL_comes_114 : decode cL_comes 114 = .ok (.iload 6, 2) := by decide +kernel
theorem dL_comes_116 : decode cL_comes 116 = .ok (.iconst 2, 1) := by decide +kernel
theorem dL_comes_117 : decode cL_comes 117 = .ok (.if_icmp .le 28, 3) := by decide +kernel
theorem dL_comes_120 : decode cL_comes 120 = .ok (.iconst 1, 1) := by decide +kernel
theorem dL_comes_121 : decode cL_comes 121 = .ok (.iload 4, 2) := by decide +kernel
theorem dL_comes_123 : decode cL_comes 123 = .ok (.iconst 5, 1) := by decide +kernel
theorem dL_comes_124 : decode cL_comes 124 = .ok (.idiv, 1) := by decide +kernel
theorem dL_comes_125 : decode cL_comes 125 = .ok (.iload 4, 2) := by decide +kernel
theorem dL_comes_127 : decode cL_comes 127 = .ok (.bipush 6, 2) := by decide +kernel
theorem dL_comes_129 : decode cL_comes 129 = .ok (.irem, 1) := by decide +kernel
theorem dL_comes_130 : decode cL_comes 130 = .ok (.ifCond .ne 8, 3) := by decide +kernel
theorem dL_comes_133 : decode cL_comes 133 = .ok (.bipush 50, 2) := by decide +kernel
theorem dL_comes_135 : decode cL_comes 135 = .ok (.goto 5, 3) := by decide +kernel
theorem dL_comes_138 : decode cL_comes 138 = .ok (.bipush 12, 2) := by decide +kernel
theorem dL_comes_140 : decode cL_comes 140 = .ok (.irem, 1) := by decide +kernel
theorem dL_comes_141 : decode cL_comes 141 = .ok (.iadd, 1) := by decide +kernel
theorem dL_comes_142 : decode cL_comes 142 = .ok (.goto 4, 3) := by decide +kernel
theorem dL_comes_145 : decode cL_comes 145 = .ok (.iconst 0, 1) := by decide +kernel
theorem dL_comes_146 : decode cL_comes 146 = .ok (.istore 10, 2) := by decide +kernel
theorem dL_comes_148 : decode cL_comes 148 = .ok (.aload_n 1, 1) := by decide +kernel
theorem dL_comes_149 : decode cL_comes 149 = .ok (.iconst 0, 1) := by decide +kernel
theorem dL_comes_150 : decode cL_comes 150 = .ok (.iaload, 1) := by decide +kernel
theorem dL_comes_151 : decode cL_comes 151 = .ok (.bipush 6, 2) := by decide +kernel
theorem dL_comes_153 : decode cL_comes 153 = .ok (.if_icmp .ne 28, 3) := by decide +kernel
theorem dL_comes_156 : decode cL_comes 156 = .ok (.aload_n 0, 1) := by decide +kernel
theorem dL_comes_157 : decode cL_comes 157 = .ok (.iload 5, 2) := by decide +kernel
theorem dL_comes_159 : decode cL_comes 159 = .ok (.iload 7, 2) := by decide +kernel
theorem dL_comes_161 : decode cL_comes 161 = .ok (.iload 8, 2) := by decide +kernel
theorem dL_comes_163 : decode cL_comes 163 = .ok (.iload 10, 2) := by decide +kernel
theorem dL_comes_165 : decode cL_comes 165 = .ok (.iload 9, 2) := by decide +kernel
theorem dL_comes_167 : decode cL_comes 167 = .ok (.invokevirtual 27, 3) := by decide +kernel
theorem dL_comes_170 : decode cL_comes 170 = .ok (.ldc 33, 2) := by decide +kernel
theorem dL_comes_172 : decode cL_comes 172 = .ok (.if_icmp .ne 7, 3) := by decide +kernel
theorem dL_comes_175 : decode cL_comes 175 = .ok (.iconst 1, 1) := by decide +kernel
theorem dL_comes_176 : decode cL_comes 176 = .ok (.goto 4, 3) := by decide +kernel
theorem dL_comes_179 : decode cL_comes 179 = .ok (.iconst 0, 1) := by decide +kernel
theorem dL_comes_180 : decode cL_comes 180 = .ok (.ireturn, 1) := by decide +kernel
theorem dL_comes_181 : decode cL_comes 181 = .ok (.bipush 8, 2) := by decide +kernel
theorem dL_comes_183 : decode cL_comes 183 = .ok (.aload_n 1, 1) := by decide +kernel
theorem dL_comes_184 : decode cL_comes 184 = .ok (.iconst 0, 1) := by decide +kernel
theorem dL_comes_185 : decode cL_comes 185 = .ok (.iaload, 1) := by decide +kernel
theorem dL_comes_186 : decode cL_comes 186 = .ok (.imul, 1) := by decide +kernel
theorem dL_comes_187 : decode cL_comes 187 = .ok (.istore 11, 2) := by decide +kernel
theorem dL_comes_189 : decode cL_comes 189 = .ok (.aload_n 2, 1) := by decide +kernel
theorem dL_comes_190 : decode cL_comes 190 = .ok (.iload 11, 2) := by decide +kernel
theorem dL_comes_192 : decode cL_comes 192 = .ok (.iload 5, 2) := by decide +kernel
theorem dL_comes_194 : decode cL_comes 194 = .ok (.iastore, 1) := by decide +kernel
theorem dL_comes_195 : decode cL_comes 195 = .ok (.aload_n 2, 1) := by decide +kernel
theorem dL_comes_196 : decode cL_comes 196 = .ok (.iload 11, 2) := by decide +kernel
theorem dL_comes_198 : decode cL_comes 198 = .ok (.iconst 1, 1) := by decide +kernel
theorem dL_comes_199 : decode cL_comes 199 = .ok (.iadd, 1) := by decide +kernel
theorem dL_comes_200 : decode cL_comes 200 = .ok (.iload 7, 2) := by decide +kernel
theorem dL_comes_202 : decode cL_comes 202 = .ok (.iastore, 1) := by decide +kernel
theorem dL_comes_203 : decode cL_comes 203 = .ok (.aload_n 2, 1) := by decide +kernel
theorem dL_comes_204 : decode cL_comes 204 = .ok (.iload 11, 2) := by decide +kernel
theorem dL_comes_206 : decode cL_comes 206 = .ok (.iconst 2, 1) := by decide +kernel
theorem dL_comes_207 : decode cL_comes 207 = .ok (.iadd, 1) := by decide +kernel
theorem dL_comes_208 : decode cL_comes 208 = .ok (.iload 8, 2) := by decide +kernel
theorem dL_comes_210 : decode cL_comes 210 = .ok (.iastore, 1) := by decide +kernel
theorem dL_comes_211 : decode cL_comes 211 = .ok (.aload_n 2, 1) := by decide +kernel
theorem dL_comes_212 : decode cL_comes 212 = .ok (.iload 11, 2) := by decide +kernel
theorem dL_comes_214 : decode cL_comes 214 = .ok (.iconst 3, 1) := by decide +kernel
theorem dL_comes_215 : decode cL_comes 215 = .ok (.iadd, 1) := by decide +kernel
theorem dL_comes_216 : decode cL_comes 216 = .ok (.iload 10, 2) := by decide +kernel
theorem dL_comes_218 : decode cL_comes 218 = .ok (.iastore, 1) := by decide +kernel
theorem dL_comes_219 : decode cL_comes 219 = .ok (.aload_n 2, 1) := by decide +kernel
theorem dL_comes_220 : decode cL_comes 220 = .ok (.iload 11, 2) := by decide +kernel
theorem dL_comes_222 : decode cL_comes 222 = .ok (.iconst 4, 1) := by decide +kernel
theorem dL_comes_223 : decode cL_comes 223 = .ok (.iadd, 1) := by decide +kernel
theorem dL_comes_224 : decode cL_comes 224 = .ok (.iload 9, 2) := by decide +kernel
theorem dL_comes_226 : decode cL_comes 226 = .ok (.iastore, 1) := by decide +kernel
theorem dL_comes_227 : decode cL_comes 227 = .ok (.iconst 0, 1) := by decide +kernel
theorem dL_comes_228 : decode cL_comes 228 = .ok (.istore 12, 2) := by decide +kernel
theorem dL_comes_230 : decode cL_comes 230 = .ok (.iload 12, 2) := by decide +kernel
theorem dL_comes_232 : decode cL_comes 232 = .ok (.bipush 7, 2) := by decide +kernel
theorem dL_comes_234 : decode cL_comes 234 = .ok (.if_icmp .ge 21, 3) := by decide +kernel
theorem dL_comes_237 : decode cL_comes 237 = .ok (.aload_n 3, 1) := by decide +kernel
theorem dL_comes_238 : decode cL_comes 238 = .ok (.bipush 7, 2) := by decide +kernel
theorem dL_comes_240 : decode cL_comes 240 = .ok (.aload_n 1, 1) := by decide +kernel
theorem dL_comes_241 : decode cL_comes 241 = .ok (.iconst 0, 1) := by decide +kernel
theorem dL_comes_242 : decode cL_comes 242 = .ok (.iaload, 1) := by decide +kernel
theorem dL_comes_243 : decode cL_comes 243 = .ok (.imul, 1) := by decide +kernel
theorem dL_comes_244 : decode cL_comes 244 = .ok (.iload 12, 2) := by decide +kernel
theorem dL_comes_246 : decode cL_comes 246 = .ok (.iadd, 1) := by decide +kernel
theorem dL_comes_247 : decode cL_comes 247 = .ok (.iconst 0, 1) := by decide +kernel
theorem dL_comes_248 : decode cL_comes 248 = .ok (.iastore, 1) := by decide +kernel
theorem dL_comes_249 : decode cL_comes 249 = .ok (.iinc 12 1, 3) := by decide +kernel
theorem dL_comes_252 : decode cL_comes 252 = .ok (.goto (-22), 3) := by decide +kernel
theorem dL_comes_255 : decode cL_comes 255 = .ok (.aload_n 2, 1) := by decide +kernel
theorem dL_comes_256 : decode cL_comes 256 = .ok (.iload 11, 2) := by decide +kernel
theorem dL_comes_258 : decode cL_comes 258 = .ok (.iconst 5, 1) := by decide +kernel
theorem dL_comes_259 : decode cL_comes 259 = .ok (.iadd, 1) := by decide +kernel
theorem dL_comes_260 : decode cL_comes 260 = .ok (.aload_n 2, 1) := by decide +kernel
theorem dL_comes_261 : decode cL_comes 261 = .ok (.aload_n 1, 1) := by decide +kernel
theorem dL_comes_262 : decode cL_comes 262 = .ok (.iconst 0, 1) := by decide +kernel
theorem dL_comes_263 : decode cL_comes 263 = .ok (.iaload, 1) := by decide +kernel
theorem dL_comes_264 : decode cL_comes 264 = .ok (.invokestatic 9, 3) := by decide +kernel
theorem dL_comes_267 : decode cL_comes 267 = .ok (.iconst 1, 1) := by decide +kernel
theorem dL_comes_268 : decode cL_comes 268 = .ok (.isub, 1) := by decide +kernel
theorem dL_comes_269 : decode cL_comes 269 = .ok (.iastore, 1) := by decide +kernel
theorem dL_comes_270 : decode cL_comes 270 = .ok (.aload_n 1, 1) := by decide +kernel
theorem dL_comes_271 : decode cL_comes 271 = .ok (.aload_n 2, 1) := by decide +kernel
theorem dL_comes_272 : decode cL_comes 272 = .ok (.aload_n 1, 1) := by decide +kernel
theorem dL_comes_273 : decode cL_comes 273 = .ok (.iconst 0, 1) := by decide +kernel
theorem dL_comes_274 : decode cL_comes 274 = .ok (.iaload, 1) := by decide +kernel
theorem dL_comes_275 : decode cL_comes 275 = .ok (.invokestatic 19, 3) := by decide +kernel
theorem dL_comes_278 : decode cL_comes 278 = .ok (.aload_n 1, 1) := by decide +kernel
theorem dL_comes_279 : decode cL_comes 279 = .ok (.iconst 0, 1) := by decide +kernel
theorem dL_comes_280 : decode cL_comes 280 = .ok (.dup2, 1) := by decide +kernel
theorem dL_comes_281 : decode cL_comes 281 = .ok (.iaload, 1) := by decide +kernel
theorem dL_comes_282 : decode cL_comes 282 = .ok (.iconst 1, 1) := by decide +kernel
theorem dL_comes_283 : decode cL_comes 283 = .ok (.iadd, 1) := by decide +kernel
theorem dL_comes_284 : decode cL_comes 284 = .ok (.iastore, 1) := by decide +kernel
theorem dL_comes_285 : decode cL_comes 285 = .ok (.aload_n 0, 1) := by decide +kernel
theorem dL_comes_286 : decode cL_comes 286 = .ok (.iload 5, 2) := by decide +kernel
theorem dL_comes_288 : decode cL_comes 288 = .ok (.iload 7, 2) := by decide +kernel
theorem dL_comes_290 : decode cL_comes 290 = .ok (.iload 8, 2) := by decide +kernel
theorem dL_comes_292 : decode cL_comes 292 = .ok (.iload 10, 2) := by decide +kernel
theorem dL_comes_294 : decode cL_comes 294 = .ok (.iload 9, 2) := by decide +kernel
theorem dL_comes_296 : decode cL_comes 296 = .ok (.invokevirtual 27, 3) := by decide +kernel
theorem dL_comes_299 : decode cL_comes 299 = .ok (.aload_n 1, 1) := by decide +kernel
theorem dL_comes_300 : decode cL_comes 300 = .ok (.iconst 0, 1) := by decide +kernel
theorem dL_comes_301 : decode cL_comes 301 = .ok (.iaload, 1) := by decide +kernel
theorem dL_comes_302 : decode cL_comes 302 = .ok (.iconst 1, 1) := by decide +kernel
theorem dL_comes_303 : decode cL_comes 303 = .ok (.isub, 1) := by decide +kernel
theorem dL_comes_304 : decode cL_comes 304 = .ok (.if_icmp .ne 7, 3) := by decide +kernel
theorem dL_comes_307 : decode cL_comes 307 = .ok (.iconst 1, 1) := by decide +kernel
theorem dL_comes_308 : decode cL_comes 308 = .ok (.goto 4, 3) := by decide +kernel
theorem dL_comes_311 : decode cL_comes 311 = .ok (.iconst 0, 1) := by decide +kernel
theorem dL_comes_312 : decode cL_comes 312 = .ok (.ireturn, 1) := by decide +kernel
theorem dL_joins_0 : decode cL_joins 0 = .ok (.iload 4, 2) := by decide +kernel
theorem dL_joins_2 : decode cL_joins 2 = .ok (.bipush 12, 2) := by decide +kernel
theorem dL_joins_4 : decode cL_joins 4 = .ok (.if_icmp .ge 99, 3) := by decide +kernel
theorem dL_joins_7 : decode cL_joins 7 = .ok (.iload 5, 2) := by decide +kernel
theorem dL_joins_9 : decode cL_joins 9 = .ok (.iconst 3, 1) := by decide +kernel
theorem dL_joins_10 : decode cL_joins 10 = .ok (.irem, 1) := by decide +kernel
theorem dL_joins_11 : decode cL_joins 11 = .ok (.istore 6, 2) := by decide +kernel
theorem dL_joins_13 : decode cL_joins 13 = .ok (.aload_n 1, 1) := by decide +kernel
theorem dL_joins_14 : decode cL_joins 14 = .ok (.iconst 1, 1) := by decide +kernel
theorem dL_joins_15 : decode cL_joins 15 = .ok (.iaload, 1) := by decide +kernel
theorem dL_joins_16 : decode cL_joins 16 = .ok (.iconst 4, 1) := by decide +kernel
theorem dL_joins_17 : decode cL_joins 17 = .ok (.if_icmp .ne 20, 3) := by decide +kernel
theorem dL_joins_20 : decode cL_joins 20 = .ok (.aload_n 0, 1) := by decide +kernel
theorem dL_joins_21 : decode cL_joins 21 = .ok (.iload 6, 2) := by decide +kernel
theorem dL_joins_23 : decode cL_joins 23 = .ok (.invokevirtual 34, 3) := by decide +kernel
theorem dL_joins_26 : decode cL_joins 26 = .ok (.ldc 33, 2) := by decide +kernel
theorem dL_joins_28 : decode cL_joins 28 = .ok (.if_icmp .ne 7, 3) := by decide +kernel
theorem dL_joins_31 : decode cL_joins 31 = .ok (.iconst 1, 1) := by decide +kernel
theorem dL_joins_32 : decode cL_joins 32 = .ok (.goto 4, 3) := by decide +kernel
theorem dL_joins_35 : decode cL_joins 35 = .ok (.iconst 0, 1) := by decide +kernel
theorem dL_joins_36 : decode cL_joins 36 = .ok (.ireturn, 1) := by decide +kernel
theorem dL_joins_37 : decode cL_joins 37 = .ok (.aload_n 3, 1) := by decide +kernel
theorem dL_joins_38 : decode cL_joins 38 = .ok (.iconst 4, 1) := by decide +kernel
theorem dL_joins_39 : decode cL_joins 39 = .ok (.aload_n 1, 1) := by decide +kernel
theorem dL_joins_40 : decode cL_joins 40 = .ok (.iconst 1, 1) := by decide +kernel
theorem dL_joins_41 : decode cL_joins 41 = .ok (.iaload, 1) := by decide +kernel
theorem dL_joins_42 : decode cL_joins 42 = .ok (.imul, 1) := by decide +kernel
theorem dL_joins_43 : decode cL_joins 43 = .ok (.iload 6, 2) := by decide +kernel
theorem dL_joins_45 : decode cL_joins 45 = .ok (.iastore, 1) := by decide +kernel
theorem dL_joins_46 : decode cL_joins 46 = .ok (.aload_n 3, 1) := by decide +kernel
theorem dL_joins_47 : decode cL_joins 47 = .ok (.iconst 4, 1) := by decide +kernel
theorem dL_joins_48 : decode cL_joins 48 = .ok (.aload_n 1, 1) := by decide +kernel
theorem dL_joins_49 : decode cL_joins 49 = .ok (.iconst 1, 1) := by decide +kernel
theorem dL_joins_50 : decode cL_joins 50 = .ok (.iaload, 1) := by decide +kernel
theorem dL_joins_51 : decode cL_joins 51 = .ok (.imul, 1) := by decide +kernel
theorem dL_joins_52 : decode cL_joins 52 = .ok (.iconst 1, 1) := by decide +kernel
theorem dL_joins_53 : decode cL_joins 53 = .ok (.iadd, 1) := by decide +kernel
theorem dL_joins_54 : decode cL_joins 54 = .ok (.iconst 0, 1) := by decide +kernel
theorem dL_joins_55 : decode cL_joins 55 = .ok (.iastore, 1) := by decide +kernel
theorem dL_joins_56 : decode cL_joins 56 = .ok (.aload_n 3, 1) := by decide +kernel
theorem dL_joins_57 : decode cL_joins 57 = .ok (.iconst 4, 1) := by decide +kernel
theorem dL_joins_58 : decode cL_joins 58 = .ok (.aload_n 1, 1) := by decide +kernel
theorem dL_joins_59 : decode cL_joins 59 = .ok (.iconst 1, 1) := by decide +kernel
theorem dL_joins_60 : decode cL_joins 60 = .ok (.iaload, 1) := by decide +kernel
theorem dL_joins_61 : decode cL_joins 61 = .ok (.imul, 1) := by decide +kernel
theorem dL_joins_62 : decode cL_joins 62 = .ok (.iconst 2, 1) := by decide +kernel
theorem dL_joins_63 : decode cL_joins 63 = .ok (.iadd, 1) := by decide +kernel
theorem dL_joins_64 : decode cL_joins 64 = .ok (.iconst 0, 1) := by decide +kernel
theorem dL_joins_65 : decode cL_joins 65 = .ok (.iastore, 1) := by decide +kernel
theorem dL_joins_66 : decode cL_joins 66 = .ok (.aload_n 3, 1) := by decide +kernel
theorem dL_joins_67 : decode cL_joins 67 = .ok (.iconst 4, 1) := by decide +kernel
theorem dL_joins_68 : decode cL_joins 68 = .ok (.aload_n 1, 1) := by decide +kernel
theorem dL_joins_69 : decode cL_joins 69 = .ok (.iconst 1, 1) := by decide +kernel
theorem dL_joins_70 : decode cL_joins 70 = .ok (.iaload, 1) := by decide +kernel
theorem dL_joins_71 : decode cL_joins 71 = .ok (.imul, 1) := by decide +kernel
theorem dL_joins_72 : decode cL_joins 72 = .ok (.iconst 3, 1) := by decide +kernel
theorem dL_joins_73 : decode cL_joins 73 = .ok (.iadd, 1) := by decide +kernel
theorem dL_joins_74 : decode cL_joins 74 = .ok (.iconst 0, 1) := by decide +kernel
theorem dL_joins_75 : decode cL_joins 75 = .ok (.iastore, 1) := by decide +kernel
theorem dL_joins_76 : decode cL_joins 76 = .ok (.aload_n 1, 1) := by decide +kernel
theorem dL_joins_77 : decode cL_joins 77 = .ok (.iconst 1, 1) := by decide +kernel
theorem dL_joins_78 : decode cL_joins 78 = .ok (.dup2, 1) := by decide +kernel
theorem dL_joins_79 : decode cL_joins 79 = .ok (.iaload, 1) := by decide +kernel
theorem dL_joins_80 : decode cL_joins 80 = .ok (.iconst 1, 1) := by decide +kernel
theorem dL_joins_81 : decode cL_joins 81 = .ok (.iadd, 1) := by decide +kernel
theorem dL_joins_82 : decode cL_joins 82 = .ok (.iastore, 1) := by decide +kernel
theorem dL_joins_83 : decode cL_joins 83 = .ok (.aload_n 0, 1) := by decide +kernel
theorem dL_joins_84 : decode cL_joins 84 = .ok (.iload 6, 2) := by decide +kernel
theorem dL_joins_86 : decode cL_joins 86 = .ok (.invokevirtual 34, 3) := by decide +kernel
theorem dL_joins_89 : decode cL_joins 89 = .ok (.aload_n 1, 1) := by decide +kernel
theorem dL_joins_90 : decode cL_joins 90 = .ok (.iconst 1, 1) := by decide +kernel
theorem dL_joins_91 : decode cL_joins 91 = .ok (.iaload, 1) := by decide +kernel
theorem dL_joins_92 : decode cL_joins 92 = .ok (.iconst 1, 1) := by decide +kernel
theorem dL_joins_93 : decode cL_joins 93 = .ok (.isub, 1) := by decide +kernel
theorem dL_joins_94 : decode cL_joins 94 = .ok (.if_icmp .ne 7, 3) := by decide +kernel
theorem dL_joins_97 : decode cL_joins 97 = .ok (.iconst 1, 1) := by decide +kernel
theorem dL_joins_98 : decode cL_joins 98 = .ok (.goto 4, 3) := by decide +kernel
theorem dL_joins_101 : decode cL_joins 101 = .ok (.iconst 0, 1) := by decide +kernel
theorem dL_joins_102 : decode cL_joins 102 = .ok (.ireturn, 1) := by decide +kernel
theorem dL_joins_103 : decode cL_joins 103 = .ok (.aload_n 1, 1) := by decide +kernel
theorem dL_joins_104 : decode cL_joins 104 = .ok (.iconst 1, 1) := by decide +kernel
theorem dL_joins_105 : decode cL_joins 105 = .ok (.iaload, 1) := by decide +kernel
theorem dL_joins_106 : decode cL_joins 106 = .ok (.ifCond .ne 31, 3) := by decide +kernel
theorem dL_joins_109 : decode cL_joins 109 = .ok (.aload_n 0, 1) := by decide +kernel
theorem dL_joins_110 : decode cL_joins 110 = .ok (.iconst 0, 1) := by decide +kernel
theorem dL_joins_111 : decode cL_joins 111 = .ok (.iconst 0, 1) := by decide +kernel
theorem dL_joins_112 : decode cL_joins 112 = .ok (.invokevirtual 37, 3) := by decide +kernel
theorem dL_joins_115 : decode cL_joins 115 = .ok (.ldc 41, 2) := by decide +kernel
theorem dL_joins_117 : decode cL_joins 117 = .ok (.if_icmp .ne 18, 3) := by decide +kernel
theorem dL_joins_120 : decode cL_joins 120 = .ok (.aload_n 0, 1) := by decide +kernel
theorem dL_joins_121 : decode cL_joins 121 = .ok (.iconst 0, 1) := by decide +kernel
theorem dL_joins_122 : decode cL_joins 122 = .ok (.iconst 0, 1) := by decide +kernel
theorem dL_joins_123 : decode cL_joins 123 = .ok (.invokevirtual 42, 3) := by decide +kernel
theorem dL_joins_126 : decode cL_joins 126 = .ok (.ldc 41, 2) := by decide +kernel
theorem dL_joins_128 : decode cL_joins 128 = .ok (.if_icmp .ne 7, 3) := by decide +kernel
theorem dL_joins_131 : decode cL_joins 131 = .ok (.iconst 1, 1) := by decide +kernel
theorem dL_joins_132 : decode cL_joins 132 = .ok (.goto 4, 3) := by decide +kernel
theorem dL_joins_135 : decode cL_joins 135 = .ok (.iconst 0, 1) := by decide +kernel
theorem dL_joins_136 : decode cL_joins 136 = .ok (.ireturn, 1) := by decide +kernel
theorem dL_joins_137 : decode cL_joins 137 = .ok (.iload 5, 2) := by decide +kernel
theorem dL_joins_139 : decode cL_joins 139 = .ok (.aload_n 1, 1) := by decide +kernel
theorem dL_joins_140 : decode cL_joins 140 = .ok (.iconst 1, 1) := by decide +kernel
theorem dL_joins_141 : decode cL_joins 141 = .ok (.iaload, 1) := by decide +kernel
theorem dL_joins_142 : decode cL_joins 142 = .ok (.irem, 1) := by decide +kernel
theorem dL_joins_143 : decode cL_joins 143 = .ok (.istore 6, 2) := by decide +kernel
theorem dL_joins_145 : decode cL_joins 145 = .ok (.iload 5, 2) := by decide +kernel
theorem dL_joins_147 : decode cL_joins 147 = .ok (.iconst 4, 1) := by decide +kernel
theorem dL_joins_148 : decode cL_joins 148 = .ok (.idiv, 1) := by decide +kernel
theorem dL_joins_149 : decode cL_joins 149 = .ok (.aload_n 1, 1) := by decide +kernel
theorem dL_joins_150 : decode cL_joins 150 = .ok (.iconst 0, 1) := by decide +kernel
theorem dL_joins_151 : decode cL_joins 151 = .ok (.iaload, 1) := by decide +kernel
theorem dL_joins_152 : decode cL_joins 152 = .ok (.irem, 1) := by decide +kernel
theorem dL_joins_153 : decode cL_joins 153 = .ok (.istore 7, 2) := by decide +kernel
theorem dL_joins_155 : decode cL_joins 155 = .ok (.iconst 0, 1) := by decide +kernel
theorem dL_joins_156 : decode cL_joins 156 = .ok (.istore 8, 2) := by decide +kernel
theorem dL_joins_158 : decode cL_joins 158 = .ok (.iload 8, 2) := by decide +kernel
theorem dL_joins_160 : decode cL_joins 160 = .ok (.bipush 6, 2) := by decide +kernel
theorem dL_joins_162 : decode cL_joins 162 = .ok (.if_icmp .ge 49, 3) := by decide +kernel
theorem dL_joins_165 : decode cL_joins 165 = .ok (.iload 4, 2) := by decide +kernel
theorem dL_joins_167 : decode cL_joins 167 = .ok (.bipush 18, 2) := by decide +kernel
theorem dL_joins_169 : decode cL_joins 169 = .ok (.if_icmp .ge 42, 3) := by decide +kernel
theorem dL_joins_172 : decode cL_joins 172 = .ok (.iload 5, 2) := by decide +kernel
theorem dL_joins_174 : decode cL_joins 174 = .ok (.iconst 5, 1) := by decide +kernel
theorem dL_joins_175 : decode cL_joins 175 = .ok (.irem, 1) := by decide +kernel
theorem dL_joins_176 : decode cL_joins 176 = .ok (.ifCond .le 35, 3) := by decide +kernel
theorem dL_joins_179 : decode cL_joins 179 = .ok (.aload_n 2, 1) := by decide +kernel
theorem dL_joins_180 : decode cL_joins 180 = .ok (.bipush 8, 2) := by decide +kernel
theorem dL_joins_182 : decode cL_joins 182 = .ok (.iload 7, 2) := by decide +kernel
theorem dL_joins_184 : decode cL_joins 184 = .ok (.imul, 1) := by decide +kernel
theorem dL_joins_185 : decode cL_joins 185 = .ok (.iaload, 1) := by decide +kernel
theorem dL_joins_186 : decode cL_joins 186 = .ok (.aload_n 3, 1) := by decide +kernel
theorem dL_joins_187 : decode cL_joins 187 = .ok (.iconst 4, 1) := by decide +kernel
theorem dL_joins_188 : decode cL_joins 188 = .ok (.iload 6, 2) := by decide +kernel
theorem dL_joins_190 : decode cL_joins 190 = .ok (.imul, 1) := by decide +kernel
theorem dL_joins_191 : decode cL_joins 191 = .ok (.iaload, 1) := by decide +kernel
theorem dL_joins_192 : decode cL_joins 192 = .ok (.if_icmp .eq 19, 3) := by decide +kernel
theorem dL_joins_195 : decode cL_joins 195 = .ok (.iload 7, 2) := by decide +kernel
theorem dL_joins_197 : decode cL_joins 197 = .ok (.iconst 1, 1) := by decide +kernel
theorem dL_joins_198 : decode cL_joins 198 = .ok (.iadd, 1) := by decide +kernel
theorem dL_joins_199 : decode cL_joins 199 = .ok (.aload_n 1, 1) := by decide +kernel
theorem dL_joins_200 : decode cL_joins 200 = .ok (.iconst 0, 1) := by decide +kernel
theorem dL_joins_201 : decode cL_joins 201 = .ok (.iaload, 1) := by decide +kernel
theorem dL_joins_202 : decode cL_joins 202 = .ok (.irem, 1) := by decide +kernel
theorem dL_joins_203 : decode cL_joins 203 = .ok (.istore 7, 2) := by decide +kernel
theorem dL_joins_205 : decode cL_joins 205 = .ok (.iinc 8 1, 3) := by decide +kernel
theorem dL_joins_208 : decode cL_joins 208 = .ok (.goto (-50), 3) := by decide +kernel
theorem dL_joins_211 : decode cL_joins 211 = .ok (.aload_n 3, 1) := by decide +kernel
theorem dL_joins_212 : decode cL_joins 212 = .ok (.iconst 4, 1) := by decide +kernel
theorem dL_joins_213 : decode cL_joins 213 = .ok (.iload 6, 2) := by decide +kernel
theorem dL_joins_215 : decode cL_joins 215 = .ok (.imul, 1) := by decide +kernel
theorem dL_joins_216 : decode cL_joins 216 = .ok (.iconst 1, 1) := by decide +kernel
theorem dL_joins_217 : decode cL_joins 217 = .ok (.iadd, 1) := by decide +kernel
theorem dL_joins_218 : decode cL_joins 218 = .ok (.iaload, 1) := by decide +kernel
theorem dL_joins_219 : decode cL_joins 219 = .ok (.iconst 1, 1) := by decide +kernel
theorem dL_joins_220 : decode cL_joins 220 = .ok (.iload 7, 2) := by decide +kernel
theorem dL_joins_222 : decode cL_joins 222 = .ok (.ishl, 1) := by decide +kernel
theorem dL_joins_223 : decode cL_joins 223 = .ok (.iand, 1) := by decide +kernel
theorem dL_joins_224 : decode cL_joins 224 = .ok (.ifCond .le 7, 3) := by decide +kernel
theorem dL_joins_227 : decode cL_joins 227 = .ok (.iconst 1, 1) := by decide +kernel
theorem dL_joins_228 : decode cL_joins 228 = .ok (.goto 4, 3) := by decide +kernel
theorem dL_joins_231 : decode cL_joins 231 = .ok (.iconst 0, 1) := by decide +kernel
theorem dL_joins_232 : decode cL_joins 232 = .ok (.istore 8, 2) := by decide +kernel
theorem dL_joins_234 : decode cL_joins 234 = .ok (.aload_n 3, 1) := by decide +kernel
theorem dL_joins_235 : decode cL_joins 235 = .ok (.iconst 4, 1) := by decide +kernel
theorem dL_joins_236 : decode cL_joins 236 = .ok (.iload 6, 2) := by decide +kernel
theorem dL_joins_238 : decode cL_joins 238 = .ok (.imul, 1) := by decide +kernel
theorem dL_joins_239 : decode cL_joins 239 = .ok (.iconst 1, 1) := by decide +kernel
theorem dL_joins_240 : decode cL_joins 240 = .ok (.iadd, 1) := by decide +kernel
theorem dL_joins_241 : decode cL_joins 241 = .ok (.iaload, 1) := by decide +kernel
theorem dL_joins_242 : decode cL_joins 242 = .ok (.invokestatic 23, 3) := by decide +kernel
theorem dL_joins_245 : decode cL_joins 245 = .ok (.istore 9, 2) := by decide +kernel
theorem dL_joins_247 : decode cL_joins 247 = .ok (.iload 4, 2) := by decide +kernel
theorem dL_joins_249 : decode cL_joins 249 = .ok (.bipush 18, 2) := by decide +kernel
theorem dL_joins_251 : decode cL_joins 251 = .ok (.if_icmp .ge 111, 3) := by decide +kernel
theorem dL_joins_254 : decode cL_joins 254 = .ok (.iload 8, 2) := by decide +kernel
theorem dL_joins_256 : decode cL_joins 256 = .ok (.ifCond .ne 25, 3) := by decide +kernel
theorem dL_joins_259 : decode cL_joins 259 = .ok (.aload_n 2, 1) := by decide +kernel
theorem dL_joins_260 : decode cL_joins 260 = .ok (.bipush 8, 2) := by decide +kernel
theorem dL_joins_262 : decode cL_joins 262 = .ok (.iload 7, 2) := by decide +kernel
theorem dL_joins_264 : decode cL_joins 264 = .ok (.imul, 1) := by decide +kernel
theorem dL_joins_265 : decode cL_joins 265 = .ok (.iaload, 1) := by decide +kernel
theorem dL_joins_266 : decode cL_joins 266 = .ok (.aload_n 3, 1) := by decide +kernel
theorem dL_joins_267 : decode cL_joins 267 = .ok (.iconst 4, 1) := by decide +kernel
theorem dL_joins_268 : decode cL_joins 268 = .ok (.iload 6, 2) := by decide +kernel
theorem dL_joins_270 : decode cL_joins 270 = .ok (.imul, 1) := by decide +kernel
theorem dL_joins_271 : decode cL_joins 271 = .ok (.iaload, 1) := by decide +kernel
theorem dL_joins_272 : decode cL_joins 272 = .ok (.if_icmp .ne 9, 3) := by decide +kernel
theorem dL_joins_275 : decode cL_joins 275 = .ok (.iload 9, 2) := by decide +kernel
theorem dL_joins_277 : decode cL_joins 277 = .ok (.iconst 4, 1) := by decide +kernel
theorem dL_joins_278 : decode cL_joins 278 = .ok (.if_icmp .ne 48, 3) := by decide +kernel
theorem dL_joins_281 : decode cL_joins 281 = .ok (.aload_n 0, 1) := by decide +kernel
theorem dL_joins_282 : decode cL_joins 282 = .ok (.iload 6, 2) := by decide +kernel
theorem dL_joins_284 : decode cL_joins 284 = .ok (.iload 7, 2) := by decide +kernel
theorem dL_joins_286 : decode cL_joins 286 = .ok (.invokevirtual 37, 3) := by decide +kernel
theorem dL_joins_289 : decode cL_joins 289 = .ok (.iload 8, 2) := by decide +kernel
theorem dL_joins_291 : decode cL_joins 291 = .ok (.ifCond .ne 19, 3) := by decide +kernel
theorem dL_joins_294 : decode cL_joins 294 = .ok (.aload_n 2, 1) := by decide +kernel
theorem dL_joins_295 : decode cL_joins 295 = .ok (.bipush 8, 2) := by decide +kernel
theorem dL_joins_297 : decode cL_joins 297 = .ok (.iload 7, 2) := by decide +kernel
theorem dL_joins_299 : decode cL_joins 299 = .ok (.imul, 1) := by decide +kernel
theorem dL_joins_300 : decode cL_joins 300 = .ok (.iaload, 1) := by decide +kernel
theorem dL_joins_301 : decode cL_joins 301 = .ok (.aload_n 3, 1) := by decide +kernel
theorem dL_joins_302 : decode cL_joins 302 = .ok (.iconst 4, 1) := by decide +kernel
theorem dL_joins_303 : decode cL_joins 303 = .ok (.iload 6, 2) := by decide +kernel
theorem dL_joins_305 : decode cL_joins 305 = .ok (.imul, 1) := by decide +kernel
theorem dL_joins_306 : decode cL_joins 306 = .ok (.iaload, 1) := by decide +kernel
theorem dL_joins_307 : decode cL_joins 307 = .ok (.if_icmp .eq 8, 3) := by decide +kernel
theorem dL_joins_310 : decode cL_joins 310 = .ok (.ldc 45, 2) := by decide +kernel
theorem dL_joins_312 : decode cL_joins 312 = .ok (.goto 5, 3) := by decide +kernel
theorem dL_joins_315 : decode cL_joins 315 = .ok (.ldc 33, 2) := by decide +kernel
theorem dL_joins_317 : decode cL_joins 317 = .ok (.if_icmp .ne 7, 3) := by decide +kernel
theorem dL_joins_320 : decode cL_joins 320 = .ok (.iconst 1, 1) := by decide +kernel
theorem dL_joins_321 : decode cL_joins 321 = .ok (.goto 4, 3) := by decide +kernel
theorem dL_joins_324 : decode cL_joins 324 = .ok (.iconst 0, 1) := by decide +kernel
theorem dL_joins_325 : decode cL_joins 325 = .ok (.ireturn, 1) := by decide +kernel
theorem dL_joins_326 : decode cL_joins 326 = .ok (.aload_n 3, 1) := by decide +kernel
theorem dL_joins_327 : decode cL_joins 327 = .ok (.iconst 4, 1) := by decide +kernel
theorem dL_joins_328 : decode cL_joins 328 = .ok (.iload 6, 2) := by decide +kernel
theorem dL_joins_330 : decode cL_joins 330 = .ok (.imul, 1) := by decide +kernel
theorem dL_joins_331 : decode cL_joins 331 = .ok (.iconst 1, 1) := by decide +kernel
theorem dL_joins_332 : decode cL_joins 332 = .ok (.iadd, 1) := by decide +kernel
theorem dL_joins_333 : decode cL_joins 333 = .ok (.dup2, 1) := by decide +kernel
theorem dL_joins_334 : decode cL_joins 334 = .ok (.iaload, 1) := by decide +kernel
theorem dL_joins_335 : decode cL_joins 335 = .ok (.iconst 1, 1) := by decide +kernel
theorem dL_joins_336 : decode cL_joins 336 = .ok (.iload 7, 2) := by decide +kernel
theorem dL_joins_338 : decode cL_joins 338 = .ok (.ishl, 1) := by decide +kernel
theorem dL_joins_339 : decode cL_joins 339 = .ok (.iadd, 1) := by decide +kernel
theorem dL_joins_340 : decode cL_joins 340 = .ok (.iastore, 1) := by decide +kernel
theorem dL_joins_341 : decode cL_joins 341 = .ok (.aload_n 0, 1) := by decide +kernel
theorem dL_joins_342 : decode cL_joins 342 = .ok (.iload 6, 2) := by decide +kernel
theorem dL_joins_344 : decode cL_joins 344 = .ok (.iload 7, 2) := by decide +kernel
theorem dL_joins_346 : decode cL_joins 346 = .ok (.invokevirtual 37, 3) := by decide +kernel
theorem dL_joins_349 : decode cL_joins 349 = .ok (.iload 9, 2) := by decide +kernel
theorem dL_joins_351 : decode cL_joins 351 = .ok (.iconst 1, 1) := by decide +kernel
theorem dL_joins_352 : decode cL_joins 352 = .ok (.iadd, 1) := by decide +kernel
theorem dL_joins_353 : decode cL_joins 353 = .ok (.if_icmp .ne 7, 3) := by decide +kernel
theorem dL_joins_356 : decode cL_joins 356 = .ok (.iconst 1, 1) := by decide +kernel
theorem dL_joins_357 : decode cL_joins 357 = .ok (.goto 4, 3) := by decide +kernel
theorem dL_joins_360 : decode cL_joins 360 = .ok (.iconst 0, 1) := by decide +kernel
theorem dL_joins_361 : decode cL_joins 361 = .ok (.ireturn, 1) := by decide +kernel
theorem dL_joins_362 : decode cL_joins 362 = .ok (.iload 8, 2) := by decide +kernel
theorem dL_joins_364 : decode cL_joins 364 = .ok (.ifCond .ne 22, 3) := by decide +kernel
theorem dL_joins_367 : decode cL_joins 367 = .ok (.aload_n 0, 1) := by decide +kernel
theorem dL_joins_368 : decode cL_joins 368 = .ok (.iload 6, 2) := by decide +kernel
theorem dL_joins_370 : decode cL_joins 370 = .ok (.iload 7, 2) := by decide +kernel
theorem dL_joins_372 : decode cL_joins 372 = .ok (.invokevirtual 42, 3) := by decide +kernel
theorem dL_joins_375 : decode cL_joins 375 = .ok (.ldc 45, 2) := by decide +kernel
theorem dL_joins_377 : decode cL_joins 377 = .ok (.if_icmp .ne 7, 3) := by decide +kernel
theorem dL_joins_380 : decode cL_joins 380 = .ok (.iconst 1, 1) := by decide +kernel
theorem dL_joins_381 : decode cL_joins 381 = .ok (.goto 4, 3) := by decide +kernel
theorem dL_joins_384 : decode cL_joins 384 = .ok (.iconst 0, 1) := by decide +kernel
theorem dL_joins_385 : decode cL_joins 385 = .ok (.ireturn, 1) := by decide +kernel
theorem dL_joins_386 : decode cL_joins 386 = .ok (.aload_n 3, 1) := by decide +kernel
theorem dL_joins_387 : decode cL_joins 387 = .ok (.iconst 4, 1) := by decide +kernel
theorem dL_joins_388 : decode cL_joins 388 = .ok (.iload 6, 2) := by decide +kernel
theorem dL_joins_390 : decode cL_joins 390 = .ok (.imul, 1) := by decide +kernel
theorem dL_joins_391 : decode cL_joins 391 = .ok (.iconst 1, 1) := by decide +kernel
theorem dL_joins_392 : decode cL_joins 392 = .ok (.iadd, 1) := by decide +kernel
theorem dL_joins_393 : decode cL_joins 393 = .ok (.dup2, 1) := by decide +kernel
theorem dL_joins_394 : decode cL_joins 394 = .ok (.iaload, 1) := by decide +kernel
theorem dL_joins_395 : decode cL_joins 395 = .ok (.iconst 1, 1) := by decide +kernel
theorem dL_joins_396 : decode cL_joins 396 = .ok (.iload 7, 2) := by decide +kernel
theorem dL_joins_398 : decode cL_joins 398 = .ok (.ishl, 1) := by decide +kernel
theorem dL_joins_399 : decode cL_joins 399 = .ok (.isub, 1) := by decide +kernel
theorem dL_joins_400 : decode cL_joins 400 = .ok (.iastore, 1) := by decide +kernel
theorem dL_joins_401 : decode cL_joins 401 = .ok (.aload_n 0, 1) := by decide +kernel
theorem dL_joins_402 : decode cL_joins 402 = .ok (.iload 6, 2) := by decide +kernel
theorem dL_joins_404 : decode cL_joins 404 = .ok (.iload 7, 2) := by decide +kernel
theorem dL_joins_406 : decode cL_joins 406 = .ok (.invokevirtual 42, 3) := by decide +kernel
theorem dL_joins_409 : decode cL_joins 409 = .ok (.iload 9, 2) := by decide +kernel
theorem dL_joins_411 : decode cL_joins 411 = .ok (.iconst 1, 1) := by decide +kernel
theorem dL_joins_412 : decode cL_joins 412 = .ok (.isub, 1) := by decide +kernel
theorem dL_joins_413 : decode cL_joins 413 = .ok (.if_icmp .ne 7, 3) := by decide +kernel
theorem dL_joins_416 : decode cL_joins 416 = .ok (.iconst 1, 1) := by decide +kernel
theorem dL_joins_417 : decode cL_joins 417 = .ok (.goto 4, 3) := by decide +kernel
theorem dL_joins_420 : decode cL_joins 420 = .ok (.iconst 0, 1) := by decide +kernel
theorem dL_joins_421 : decode cL_joins 421 = .ok (.ireturn, 1) := by decide +kernel
theorem dL_acts_0 : decode cL_acts 0 = .ok (.iload 5, 2) := by decide +kernel
theorem dL_acts_2 : decode cL_acts 2 = .ok (.iconst 5, 1) := by decide +kernel
theorem dL_acts_3 : decode cL_acts 3 = .ok (.ishr, 1) := by decide +kernel
theorem dL_acts_4 : decode cL_acts 4 = .ok (.ldc 46, 2) := by decide +kernel
theorem dL_acts_6 : decode cL_acts 6 = .ok (.invokestatic 47, 3) := by decide +kernel
theorem dL_acts_9 : decode cL_acts 9 = .ok (.istore 6, 2) := by decide +kernel
theorem dL_acts_11 : decode cL_acts 11 = .ok (.iload 5, 2) := by decide +kernel
theorem dL_acts_13 : decode cL_acts 13 = .ok (.bipush 32, 2) := by decide +kernel
theorem dL_acts_15 : decode cL_acts 15 = .ok (.invokestatic 47, 3) := by decide +kernel
theorem dL_acts_18 : decode cL_acts 18 = .ok (.istore 7, 2) := by decide +kernel
theorem dL_acts_20 : decode cL_acts 20 = .ok (.iload 7, 2) := by decide +kernel
theorem dL_acts_22 : decode cL_acts 22 = .ok (.bipush 7, 2) := by decide +kernel
theorem dL_acts_24 : decode cL_acts 24 = .ok (.if_icmp .ge 13, 3) := by decide +kernel
theorem dL_acts_27 : decode cL_acts 27 = .ok (.aload_n 0, 1) := by decide +kernel
theorem dL_acts_28 : decode cL_acts 28 = .ok (.aload_n 1, 1) := by decide +kernel
theorem dL_acts_29 : decode cL_acts 29 = .ok (.aload_n 2, 1) := by decide +kernel
theorem dL_acts_30 : decode cL_acts 30 = .ok (.aload_n 3, 1) := by decide +kernel
theorem dL_acts_31 : decode cL_acts 31 = .ok (.iload 6, 2) := by decide +kernel
theorem dL_acts_33 : decode cL_acts 33 = .ok (.invokestatic 50, 3) := by decide +kernel
theorem dL_acts_36 : decode cL_acts 36 = .ok (.ireturn, 1) := by decide +kernel
theorem dL_acts_37 : decode cL_acts 37 = .ok (.aload_n 1, 1) := by decide +kernel
theorem dL_acts_38 : decode cL_acts 38 = .ok (.iconst 0, 1) := by decide +kernel
theorem dL_acts_39 : decode cL_acts 39 = .ok (.iaload, 1) := by decide +kernel
theorem dL_acts_40 : decode cL_acts 40 = .ok (.ifCond .ne 51, 3) := by decide +kernel
theorem dL_acts_43 : decode cL_acts 43 = .ok (.aload_n 0, 1) := by decide +kernel
theorem dL_acts_44 : decode cL_acts 44 = .ok (.iconst 0, 1) := by decide +kernel
theorem dL_acts_45 : decode cL_acts 45 = .ok (.invokevirtual 54, 3) := by decide +kernel
theorem dL_acts_48 : decode cL_acts 48 = .ok (.ldc 41, 2) := by decide +kernel
theorem dL_acts_50 : decode cL_acts 50 = .ok (.if_icmp .ne 39, 3) := by decide +kernel
theorem dL_acts_53 : decode cL_acts 53 = .ok (.aload_n 0, 1) := by decide +kernel
theorem dL_acts_54 : decode cL_acts 54 = .ok (.iconst 0, 1) := by decide +kernel
theorem dL_acts_55 : decode cL_acts 55 = .ok (.invokevirtual 57, 3) := by decide +kernel
theorem dL_acts_58 : decode cL_acts 58 = .ok (.ldc 41, 2) := by decide +kernel
theorem dL_acts_60 : decode cL_acts 60 = .ok (.if_icmp .ne 29, 3) := by decide +kernel
theorem dL_acts_63 : decode cL_acts 63 = .ok (.aload_n 0, 1) := by decide +kernel
theorem dL_acts_64 : decode cL_acts 64 = .ok (.iconst 0, 1) := by decide +kernel
theorem dL_acts_65 : decode cL_acts 65 = .ok (.invokevirtual 60, 3) := by decide +kernel
theorem dL_acts_68 : decode cL_acts 68 = .ok (.ldc 41, 2) := by decide +kernel
theorem dL_acts_70 : decode cL_acts 70 = .ok (.if_icmp .ne 19, 3) := by decide +kernel
theorem dL_acts_73 : decode cL_acts 73 = .ok (.aload_n 0, 1) := by decide +kernel
theorem dL_acts_74 : decode cL_acts 74 = .ok (.sipush 201, 3) := by decide +kernel
theorem dL_acts_77 : decode cL_acts 77 = .ok (.invokevirtual 60, 3) := by decide +kernel
theorem dL_acts_80 : decode cL_acts 80 = .ok (.ldc 41, 2) := by decide +kernel
theorem dL_acts_82 : decode cL_acts 82 = .ok (.if_icmp .ne 7, 3) := by decide +kernel
theorem dL_acts_85 : decode cL_acts 85 = .ok (.iconst 1, 1) := by decide +kernel
theorem dL_acts_86 : decode cL_acts 86 = .ok (.goto 4, 3) := by decide +kernel
theorem dL_acts_89 : decode cL_acts 89 = .ok (.iconst 0, 1) := by decide +kernel
theorem dL_acts_90 : decode cL_acts 90 = .ok (.ireturn, 1) := by decide +kernel
theorem dL_acts_91 : decode cL_acts 91 = .ok (.iload 6, 2) := by decide +kernel
theorem dL_acts_93 : decode cL_acts 93 = .ok (.aload_n 1, 1) := by decide +kernel
theorem dL_acts_94 : decode cL_acts 94 = .ok (.iconst 0, 1) := by decide +kernel
theorem dL_acts_95 : decode cL_acts 95 = .ok (.iaload, 1) := by decide +kernel
theorem dL_acts_96 : decode cL_acts 96 = .ok (.irem, 1) := by decide +kernel
theorem dL_acts_97 : decode cL_acts 97 = .ok (.istore 8, 2) := by decide +kernel
theorem dL_acts_99 : decode cL_acts 99 = .ok (.iload 7, 2) := by decide +kernel
theorem dL_acts_101 : decode cL_acts 101 = .ok (.bipush 9, 2) := by decide +kernel
theorem dL_acts_103 : decode cL_acts 103 = .ok (.if_icmp .ge 49, 3) := by decide +kernel
theorem dL_acts_106 : decode cL_acts 106 = .ok (.aload_n 1, 1) := by decide +kernel
theorem dL_acts_107 : decode cL_acts 107 = .ok (.aload_n 2, 1) := by decide +kernel
theorem dL_acts_108 : decode cL_acts 108 = .ok (.iload 8, 2) := by decide +kernel
theorem dL_acts_110 : decode cL_acts 110 = .ok (.invokestatic 19, 3) := by decide +kernel
theorem dL_acts_113 : decode cL_acts 113 = .ok (.aload_n 3, 1) := by decide +kernel
theorem dL_acts_114 : decode cL_acts 114 = .ok (.bipush 7, 2) := by decide +kernel
theorem dL_acts_116 : decode cL_acts 116 = .ok (.iload 8, 2) := by decide +kernel
theorem dL_acts_118 : decode cL_acts 118 = .ok (.imul, 1) := by decide +kernel
theorem dL_acts_119 : decode cL_acts 119 = .ok (.bipush 6, 2) := by decide +kernel
theorem dL_acts_121 : decode cL_acts 121 = .ok (.iadd, 1) := by decide +kernel
theorem dL_acts_122 : decode cL_acts 122 = .ok (.dup2, 1) := by decide +kernel
theorem dL_acts_123 : decode cL_acts 123 = .ok (.iaload, 1) := by decide +kernel
theorem dL_acts_124 : decode cL_acts 124 = .ok (.iconst 1, 1) := by decide +kernel
theorem dL_acts_125 : decode cL_acts 125 = .ok (.iadd, 1) := by decide +kernel
theorem dL_acts_126 : decode cL_acts 126 = .ok (.iastore, 1) := by decide +kernel
theorem dL_acts_127 : decode cL_acts 127 = .ok (.aload_n 0, 1) := by decide +kernel
theorem dL_acts_128 : decode cL_acts 128 = .ok (.iload 8, 2) := by decide +kernel
theorem dL_acts_130 : decode cL_acts 130 = .ok (.invokevirtual 54, 3) := by decide +kernel
theorem dL_acts_133 : decode cL_acts 133 = .ok (.aload_n 2, 1) := by decide +kernel
theorem dL_acts_134 : decode cL_acts 134 = .ok (.bipush 8, 2) := by decide +kernel
theorem dL_acts_136 : decode cL_acts 136 = .ok (.iload 8, 2) := by decide +kernel
theorem dL_acts_138 : decode cL_acts 138 = .ok (.imul, 1) := by decide +kernel
theorem dL_acts_139 : decode cL_acts 139 = .ok (.bipush 6, 2) := by decide +kernel
theorem dL_acts_141 : decode cL_acts 141 = .ok (.iadd, 1) := by decide +kernel
theorem dL_acts_142 : decode cL_acts 142 = .ok (.iaload, 1) := by decide +kernel
theorem dL_acts_143 : decode cL_acts 143 = .ok (.if_icmp .ne 7, 3) := by decide +kernel
theorem dL_acts_146 : decode cL_acts 146 = .ok (.iconst 1, 1) := by decide +kernel
theorem dL_acts_147 : decode cL_acts 147 = .ok (.goto 4, 3) := by decide +kernel
theorem dL_acts_150 : decode cL_acts 150 = .ok (.iconst 0, 1) := by decide +kernel
theorem dL_acts_151 : decode cL_acts 151 = .ok (.ireturn, 1) := by decide +kernel
theorem dL_acts_152 : decode cL_acts 152 = .ok (.iload 7, 2) := by decide +kernel
theorem dL_acts_154 : decode cL_acts 154 = .ok (.bipush 19, 2) := by decide +kernel
theorem dL_acts_156 : decode cL_acts 156 = .ok (.if_icmp .ge 16, 3) := by decide +kernel
theorem dL_acts_159 : decode cL_acts 159 = .ok (.aload_n 0, 1) := by decide +kernel
theorem dL_acts_160 : decode cL_acts 160 = .ok (.aload_n 1, 1) := by decide +kernel
theorem dL_acts_161 : decode cL_acts 161 = .ok (.aload_n 2, 1) := by decide +kernel
theorem dL_acts_162 : decode cL_acts 162 = .ok (.aload 4, 2) := by decide +kernel
theorem dL_acts_164 : decode cL_acts 164 = .ok (.iload 7, 2) := by decide +kernel
theorem dL_acts_166 : decode cL_acts 166 = .ok (.iload 6, 2) := by decide +kernel
theorem dL_acts_168 : decode cL_acts 168 = .ok (.invokestatic 63, 3) := by decide +kernel
theorem dL_acts_171 : decode cL_acts 171 = .ok (.ireturn, 1) := by decide +kernel
theorem dL_acts_172 : decode cL_acts 172 = .ok (.iload 7, 2) := by decide +kernel
theorem dL_acts_174 : decode cL_acts 174 = .ok (.bipush 24, 2) := by decide +kernel
theorem dL_acts_176 : decode cL_acts 176 = .ok (.if_icmp .ge 55, 3) := by decide +kernel
theorem dL_acts_179 : decode cL_acts 179 = .ok (.aload_n 3, 1) := by decide +kernel
theorem dL_acts_180 : decode cL_acts 180 = .ok (.bipush 7, 2) := by decide +kernel
theorem dL_acts_182 : decode cL_acts 182 = .ok (.iload 8, 2) := by decide +kernel
theorem dL_acts_184 : decode cL_acts 184 = .ok (.imul, 1) := by decide +kernel
theorem dL_acts_185 : decode cL_acts 185 = .ok (.iconst 4, 1) := by decide +kernel
theorem dL_acts_186 : decode cL_acts 186 = .ok (.iadd, 1) := by decide +kernel
theorem dL_acts_187 : decode cL_acts 187 = .ok (.dup2, 1) := by decide +kernel
theorem dL_acts_188 : decode cL_acts 188 = .ok (.iaload, 1) := by decide +kernel
theorem dL_acts_189 : decode cL_acts 189 = .ok (.iconst 1, 1) := by decide +kernel
theorem dL_acts_190 : decode cL_acts 190 = .ok (.iadd, 1) := by decide +kernel
theorem dL_acts_191 : decode cL_acts 191 = .ok (.iastore, 1) := by decide +kernel
theorem dL_acts_192 : decode cL_acts 192 = .ok (.aload_n 3, 1) := by decide +kernel
theorem dL_acts_193 : decode cL_acts 193 = .ok (.bipush 7, 2) := by decide +kernel
theorem dL_acts_195 : decode cL_acts 195 = .ok (.iload 8, 2) := by decide +kernel
theorem dL_acts_197 : decode cL_acts 197 = .ok (.imul, 1) := by decide +kernel
theorem dL_acts_198 : decode cL_acts 198 = .ok (.iconst 5, 1) := by decide +kernel
theorem dL_acts_199 : decode cL_acts 199 = .ok (.iadd, 1) := by decide +kernel
theorem dL_acts_200 : decode cL_acts 200 = .ok (.dup2, 1) := by decide +kernel
theorem dL_acts_201 : decode cL_acts 201 = .ok (.iaload, 1) := by decide +kernel
theorem dL_acts_202 : decode cL_acts 202 = .ok (.aload_n 2, 1) := by decide +kernel
theorem dL_acts_203 : decode cL_acts 203 = .ok (.iload 8, 2) := by decide +kernel
theorem dL_acts_205 : decode cL_acts 205 = .ok (.invokestatic 67, 3) := by decide +kernel
theorem dL_acts_208 : decode cL_acts 208 = .ok (.iadd, 1) := by decide +kernel
theorem dL_acts_209 : decode cL_acts 209 = .ok (.iastore, 1) := by decide +kernel
theorem dL_acts_210 : decode cL_acts 210 = .ok (.aload_n 0, 1) := by decide +kernel
theorem dL_acts_211 : decode cL_acts 211 = .ok (.iload 8, 2) := by decide +kernel
theorem dL_acts_213 : decode cL_acts 213 = .ok (.invokevirtual 57, 3) := by decide +kernel
theorem dL_acts_216 : decode cL_acts 216 = .ok (.aload_n 2, 1) := by decide +kernel
theorem dL_acts_217 : decode cL_acts 217 = .ok (.iload 8, 2) := by decide +kernel
theorem dL_acts_219 : decode cL_acts 219 = .ok (.invokestatic 67, 3) := by decide +kernel
theorem dL_acts_222 : decode cL_acts 222 = .ok (.if_icmp .ne 7, 3) := by decide +kernel
theorem dL_acts_225 : decode cL_acts 225 = .ok (.iconst 1, 1) := by decide +kernel
theorem dL_acts_226 : decode cL_acts 226 = .ok (.goto 4, 3) := by decide +kernel
theorem dL_acts_229 : decode cL_acts 229 = .ok (.iconst 0, 1) := by decide +kernel
theorem dL_acts_230 : decode cL_acts 230 = .ok (.ireturn, 1) := by decide +kernel
theorem dL_acts_231 : decode cL_acts 231 = .ok (.iconst 1, 1) := by decide +kernel
theorem dL_acts_232 : decode cL_acts 232 = .ok (.iload 6, 2) := by decide +kernel
theorem dL_acts_234 : decode cL_acts 234 = .ok (.iload 6, 2) := by decide +kernel
theorem dL_acts_236 : decode cL_acts 236 = .ok (.iconst 4, 1) := by decide +kernel
theorem dL_acts_237 : decode cL_acts 237 = .ok (.irem, 1) := by decide +kernel
theorem dL_acts_238 : decode cL_acts 238 = .ok (.ifCond .ne 9, 3) := by decide +kernel
theorem dL_acts_241 : decode cL_acts 241 = .ok (.sipush 200, 3) := by decide +kernel
theorem dL_acts_244 : decode cL_acts 244 = .ok (.goto 5, 3) := by decide +kernel
theorem dL_acts_247 : decode cL_acts 247 = .ok (.bipush 9, 2) := by decide +kernel
theorem dL_acts_249 : decode cL_acts 249 = .ok (.irem, 1) := by decide +kernel
theorem dL_acts_250 : decode cL_acts 250 = .ok (.iadd, 1) := by decide +kernel
theorem dL_acts_251 : decode cL_acts 251 = .ok (.istore 9, 2) := by decide +kernel
theorem dL_acts_253 : decode cL_acts 253 = .ok (.aload_n 1, 1) := by decide +kernel
theorem dL_acts_254 : decode cL_acts 254 = .ok (.iconst 2, 1) := by decide +kernel
theorem dL_acts_255 : decode cL_acts 255 = .ok (.iaload, 1) := by decide +kernel
theorem dL_acts_256 : decode cL_acts 256 = .ok (.iload 9, 2) := by decide +kernel
theorem dL_acts_258 : decode cL_acts 258 = .ok (.iadd, 1) := by decide +kernel
theorem dL_acts_259 : decode cL_acts 259 = .ok (.ldc 70, 2) := by decide +kernel
theorem dL_acts_261 : decode cL_acts 261 = .ok (.if_icmp .le 20, 3) := by decide +kernel
theorem dL_acts_264 : decode cL_acts 264 = .ok (.aload_n 0, 1) := by decide +kernel
theorem dL_acts_265 : decode cL_acts 265 = .ok (.iload 9, 2) := by decide +kernel
theorem dL_acts_267 : decode cL_acts 267 = .ok (.invokevirtual 60, 3) := by decide +kernel
theorem dL_acts_270 : decode cL_acts 270 = .ok (.ldc 33, 2) := by decide +kernel
theorem dL_acts_272 : decode cL_acts 272 = .ok (.if_icmp .ne 7, 3) := by decide +kernel
theorem dL_acts_275 : decode cL_acts 275 = .ok (.iconst 1, 1) := by decide +kernel
theorem dL_acts_276 : decode cL_acts 276 = .ok (.goto 4, 3) := by decide +kernel
theorem dL_acts_279 : decode cL_acts 279 = .ok (.iconst 0, 1) := by decide +kernel
theorem dL_acts_280 : decode cL_acts 280 = .ok (.ireturn, 1) := by decide +kernel
theorem dL_acts_281 : decode cL_acts 281 = .ok (.iconst 0, 1) := by decide +kernel
theorem dL_acts_282 : decode cL_acts 282 = .ok (.istore 10, 2) := by decide +kernel
theorem dL_acts_284 : decode cL_acts 284 = .ok (.iconst 0, 1) := by decide +kernel
theorem dL_acts_285 : decode cL_acts 285 = .ok (.istore 11, 2) := by decide +kernel
theorem dL_acts_287 : decode cL_acts 287 = .ok (.iload 11, 2) := by decide +kernel
theorem dL_acts_289 : decode cL_acts 289 = .ok (.iload 9, 2) := by decide +kernel
theorem dL_acts_291 : decode cL_acts 291 = .ok (.if_icmp .ge 22, 3) := by decide +kernel
theorem dL_acts_294 : decode cL_acts 294 = .ok (.iload 10, 2) := by decide +kernel
theorem dL_acts_296 : decode cL_acts 296 = .ok (.aload_n 1, 1) := by decide +kernel
theorem dL_acts_297 : decode cL_acts 297 = .ok (.aload_n 2, 1) := by decide +kernel
theorem dL_acts_298 : decode cL_acts 298 = .ok (.aload_n 3, 1) := by decide +kernel
theorem dL_acts_299 : decode cL_acts 299 = .ok (.aload 4, 2) := by decide +kernel
theorem dL_acts_301 : decode cL_acts 301 = .ok (.invokestatic 71, 3) := by decide +kernel
theorem dL_acts_304 : decode cL_acts 304 = .ok (.iadd, 1) := by decide +kernel
theorem dL_acts_305 : decode cL_acts 305 = .ok (.istore 10, 2) := by decide +kernel
theorem dL_acts_307 : decode cL_acts 307 = .ok (.iinc 11 1, 3) := by decide +kernel
theorem dL_acts_310 : decode cL_acts 310 = .ok (.goto (-23), 3) := by decide +kernel
theorem dL_acts_313 : decode cL_acts 313 = .ok (.aload_n 0, 1) := by decide +kernel
theorem dL_acts_314 : decode cL_acts 314 = .ok (.iload 9, 2) := by decide +kernel
theorem dL_acts_316 : decode cL_acts 316 = .ok (.invokevirtual 60, 3) := by decide +kernel
theorem dL_acts_319 : decode cL_acts 319 = .ok (.iload 10, 2) := by decide +kernel
theorem dL_acts_321 : decode cL_acts 321 = .ok (.if_icmp .ne 7, 3) := by decide +kernel
theorem dL_acts_324 : decode cL_acts 324 = .ok (.iconst 1, 1) := by decide +kernel
theorem dL_acts_325 : decode cL_acts 325 = .ok (.goto 4, 3) := by decide +kernel
theorem dL_acts_328 : decode cL_acts 328 = .ok (.iconst 0, 1) := by decide +kernel
theorem dL_acts_329 : decode cL_acts 329 = .ok (.ireturn, 1) := by decide +kernel
theorem dL_areClocks_0 : decode cL_areClocks 0 = .ok (.aload_n 0, 1) := by decide +kernel
theorem dL_areClocks_1 : decode cL_areClocks 1 = .ok (.aload_n 1, 1) := by decide +kernel
theorem dL_areClocks_2 : decode cL_areClocks 2 = .ok (.iconst 0, 1) := by decide +kernel
theorem dL_areClocks_3 : decode cL_areClocks 3 = .ok (.iaload, 1) := by decide +kernel
theorem dL_areClocks_4 : decode cL_areClocks 4 = .ok (.iconst 0, 1) := by decide +kernel
theorem dL_areClocks_5 : decode cL_areClocks 5 = .ok (.invokevirtual 75, 3) := by decide +kernel
theorem dL_areClocks_8 : decode cL_areClocks 8 = .ok (.ldc 41, 2) := by decide +kernel
theorem dL_areClocks_10 : decode cL_areClocks 10 = .ok (.if_icmp .ne 18, 3) := by decide +kernel
theorem dL_areClocks_13 : decode cL_areClocks 13 = .ok (.aload_n 0, 1) := by decide +kernel
theorem dL_areClocks_14 : decode cL_areClocks 14 = .ok (.iconst (-1), 1) := by decide +kernel
theorem dL_areClocks_15 : decode cL_areClocks 15 = .ok (.iconst 0, 1) := by decide +kernel
theorem dL_areClocks_16 : decode cL_areClocks 16 = .ok (.invokevirtual 75, 3) := by decide +kernel
theorem dL_areClocks_19 : decode cL_areClocks 19 = .ok (.ldc 41, 2) := by decide +kernel
theorem dL_areClocks_21 : decode cL_areClocks 21 = .ok (.if_icmp .ne 7, 3) := by decide +kernel
theorem dL_areClocks_24 : decode cL_areClocks 24 = .ok (.iconst 1, 1) := by decide +kernel
theorem dL_areClocks_25 : decode cL_areClocks 25 = .ok (.goto 4, 3) := by decide +kernel
theorem dL_areClocks_28 : decode cL_areClocks 28 = .ok (.iconst 0, 1) := by decide +kernel
theorem dL_areClocks_29 : decode cL_areClocks 29 = .ok (.istore 4, 2) := by decide +kernel
theorem dL_areClocks_31 : decode cL_areClocks 31 = .ok (.iconst 0, 1) := by decide +kernel
theorem dL_areClocks_32 : decode cL_areClocks 32 = .ok (.istore 5, 2) := by decide +kernel
theorem dL_areClocks_34 : decode cL_areClocks 34 = .ok (.iconst 0, 1) := by decide +kernel
theorem dL_areClocks_35 : decode cL_areClocks 35 = .ok (.istore 6, 2) := by decide +kernel
theorem dL_areClocks_37 : decode cL_areClocks 37 = .ok (.iconst 0, 1) := by decide +kernel
theorem dL_areClocks_38 : decode cL_areClocks 38 = .ok (.istore 7, 2) := by decide +kernel
theorem dL_areClocks_40 : decode cL_areClocks 40 = .ok (.iconst 0, 1) := by decide +kernel
theorem dL_areClocks_41 : decode cL_areClocks 41 = .ok (.istore 8, 2) := by decide +kernel
theorem dL_areClocks_43 : decode cL_areClocks 43 = .ok (.ldc 78, 2) := by decide +kernel
theorem dL_areClocks_45 : decode cL_areClocks 45 = .ok (.istore 9, 2) := by decide +kernel
theorem dL_areClocks_47 : decode cL_areClocks 47 = .ok (.iconst 0, 1) := by decide +kernel
theorem dL_areClocks_48 : decode cL_areClocks 48 = .ok (.istore 10, 2) := by decide +kernel
theorem dL_areClocks_50 : decode cL_areClocks 50 = .ok (.iload 10, 2) := by decide +kernel
theorem dL_areClocks_52 : decode cL_areClocks 52 = .ok (.aload_n 1, 1) := by decide +kernel
theorem dL_areClocks_53 : decode cL_areClocks 53 = .ok (.iconst 0, 1) := by decide +kernel
theorem dL_areClocks_54 : decode cL_areClocks 54 = .ok (.iaload, 1) := by decide +kernel
theorem dL_areClocks_55 : decode cL_areClocks 55 = .ok (.if_icmp .ge 362, 3) := by decide +kernel
theorem dL_areClocks_58 : decode cL_areClocks 58 = .ok (.iload 4, 2) := by decide +kernel
theorem dL_areClocks_60 : decode cL_areClocks 60 = .ok (.ifCond .eq 357, 3) := by decide +kernel
theorem dL_areClocks_63 : decode cL_areClocks 63 = .ok (.bipush 8, 2) := by decide +kernel
theorem dL_areClocks_65 : decode cL_areClocks 65 = .ok (.iload 10, 2) := by decide +kernel
theorem dL_areClocks_67 : decode cL_areClocks 67 = .ok (.imul, 1) := by decide +kernel
theorem dL_areClocks_68 : decode cL_areClocks 68 = .ok (.istore 11, 2) := by decide +kernel
theorem dL_areClocks_70 : decode cL_areClocks 70 = .ok (.bipush 7, 2) := by decide +kernel
theorem dL_areClocks_72 : decode cL_areClocks 72 = .ok (.iload 10, 2) := by decide +kernel
theorem dL_areClocks_74 : decode cL_areClocks 74 = .ok (.imul, 1) := by decide +kernel
theorem dL_areClocks_75 : decode cL_areClocks 75 = .ok (.istore 12, 2) := by decide +kernel
theorem dL_areClocks_77 : decode cL_areClocks 77 = .ok (.iload 5, 2) := by decide +kernel
theorem dL_areClocks_79 : decode cL_areClocks 79 = .ok (.aload_n 3, 1) := by decide +kernel
theorem dL_areClocks_80 : decode cL_areClocks 80 = .ok (.iload 12, 2) := by decide +kernel
theorem dL_areClocks_82 : decode cL_areClocks 82 = .ok (.iaload, 1) := by decide +kernel
theorem dL_areClocks_83 : decode cL_areClocks 83 = .ok (.iadd, 1) := by decide +kernel
theorem dL_areClocks_84 : decode cL_areClocks 84 = .ok (.istore 5, 2) := by decide +kernel
theorem dL_areClocks_86 : decode cL_areClocks 86 = .ok (.iload 6, 2) := by decide +kernel
theorem dL_areClocks_88 : decode cL_areClocks 88 = .ok (.aload_n 3, 1) := by decide +kernel
theorem dL_areClocks_89 : decode cL_areClocks 89 = .ok (.iload 12, 2) := by decide +kernel
theorem dL_areClocks_91 : decode cL_areClocks 91 = .ok (.iconst 4, 1) := by decide +kernel
theorem dL_areClocks_92 : decode cL_areClocks 92 = .ok (.iadd, 1) := by decide +kernel
theorem dL_areClocks_93 : decode cL_areClocks 93 = .ok (.iaload, 1) := by decide +kernel
theorem dL_areClocks_94 : decode cL_areClocks 94 = .ok (.iadd, 1) := by decide +kernel
theorem dL_areClocks_95 : decode cL_areClocks 95 = .ok (.istore 6, 2) := by decide +kernel
theorem dL_areClocks_97 : decode cL_areClocks 97 = .ok (.iload 7, 2) := by decide +kernel
theorem dL_areClocks_99 : decode cL_areClocks 99 = .ok (.aload_n 3, 1) := by decide +kernel
theorem dL_areClocks_100 : decode cL_areClocks 100 = .ok (.iload 12, 2) := by decide +kernel
theorem dL_areClocks_102 : decode cL_areClocks 102 = .ok (.iconst 5, 1) := by decide +kernel
theorem dL_areClocks_103 : decode cL_areClocks 103 = .ok (.iadd, 1) := by decide +kernel
theorem dL_areClocks_104 : decode cL_areClocks 104 = .ok (.iaload, 1) := by decide +kernel
theorem dL_areClocks_105 : decode cL_areClocks 105 = .ok (.iadd, 1) := by decide +kernel
theorem dL_areClocks_106 : decode cL_areClocks 106 = .ok (.istore 7, 2) := by decide +kernel
theorem dL_areClocks_108 : decode cL_areClocks 108 = .ok (.iload 8, 2) := by decide +kernel
theorem dL_areClocks_110 : decode cL_areClocks 110 = .ok (.aload_n 2, 1) := by decide +kernel
theorem dL_areClocks_111 : decode cL_areClocks 111 = .ok (.iload 10, 2) := by decide +kernel
theorem dL_areClocks_113 : decode cL_areClocks 113 = .ok (.invokestatic 67, 3) := by decide +kernel
theorem dL_areClocks_116 : decode cL_areClocks 116 = .ok (.iconst 1, 1) := by decide +kernel
theorem dL_areClocks_117 : decode cL_areClocks 117 = .ok (.if_icmp .ne 10, 3) := by decide +kernel
theorem dL_areClocks_120 : decode cL_areClocks 120 = .ok (.iconst 1, 1) := by decide +kernel
theorem dL_areClocks_121 : decode cL_areClocks 121 = .ok (.iload 10, 2) := by decide +kernel
theorem dL_areClocks_123 : decode cL_areClocks 123 = .ok (.ishl, 1) := by decide +kernel
theorem dL_areClocks_124 : decode cL_areClocks 124 = .ok (.goto 4, 3) := by decide +kernel
theorem dL_areClocks_127 : decode cL_areClocks 127 = .ok (.iconst 0, 1) := by decide +kernel
theorem dL_areClocks_128 : decode cL_areClocks 128 = .ok (.ior, 1) := by decide +kernel
theorem dL_areClocks_129 : decode cL_areClocks 129 = .ok (.istore 8, 2) := by decide +kernel
theorem dL_areClocks_131 : decode cL_areClocks 131 = .ok (.aload_n 2, 1) := by decide +kernel
theorem dL_areClocks_132 : decode cL_areClocks 132 = .ok (.iload 11, 2) := by decide +kernel
theorem dL_areClocks_134 : decode cL_areClocks 134 = .ok (.bipush 7, 2) := by decide +kernel
theorem dL_areClocks_136 : decode cL_areClocks 136 = .ok (.iadd, 1) := by decide +kernel
theorem dL_areClocks_137 : decode cL_areClocks 137 = .ok (.iaload, 1) := by decide +kernel
theorem dL_areClocks_138 : decode cL_areClocks 138 = .ok (.iload 9, 2) := by decide +kernel
theorem dL_areClocks_140 : decode cL_areClocks 140 = .ok (.if_icmp .le 13, 3) := by decide +kernel
theorem dL_areClocks_143 : decode cL_areClocks 143 = .ok (.aload_n 2, 1) := by decide +kernel
theorem dL_areClocks_144 : decode cL_areClocks 144 = .ok (.iload 11, 2) := by decide +kernel
theorem dL_areClocks_146 : decode cL_areClocks 146 = .ok (.bipush 7, 2) := by decide +kernel
theorem dL_areClocks_148 : decode cL_areClocks 148 = .ok (.iadd, 1) := by decide +kernel
theorem dL_areClocks_149 : decode cL_areClocks 149 = .ok (.iaload, 1) := by decide +kernel
theorem dL_areClocks_150 : decode cL_areClocks 150 = .ok (.goto 5, 3) := by decide +kernel
theorem dL_areClocks_153 : decode cL_areClocks 153 = .ok (.iload 9, 2) := by decide +kernel
theorem dL_areClocks_155 : decode cL_areClocks 155 = .ok (.istore 9, 2) := by decide +kernel
theorem dL_areClocks_157 : decode cL_areClocks 157 = .ok (.iconst 0, 1) := by decide +kernel
theorem dL_areClocks_158 : decode cL_areClocks 158 = .ok (.istore 13, 2) := by decide +kernel
theorem dL_areClocks_160 : decode cL_areClocks 160 = .ok (.iload 13, 2) := by decide +kernel
theorem dL_areClocks_162 : decode cL_areClocks 162 = .ok (.iconst 5, 1) := by decide +kernel
theorem dL_areClocks_163 : decode cL_areClocks 163 = .ok (.if_icmp .ge 39, 3) := by decide +kernel
theorem dL_areClocks_166 : decode cL_areClocks 166 = .ok (.iload 4, 2) := by decide +kernel
theorem dL_areClocks_168 : decode cL_areClocks 168 = .ok (.ifCond .eq 34, 3) := by decide +kernel
theorem dL_areClocks_171 : decode cL_areClocks 171 = .ok (.aload_n 0, 1) := by decide +kernel
theorem dL_areClocks_172 : decode cL_areClocks 172 = .ok (.iload 10, 2) := by decide +kernel
theorem dL_areClocks_174 : decode cL_areClocks 174 = .ok (.iload 13, 2) := by decide +kernel
theorem dL_areClocks_176 : decode cL_areClocks 176 = .ok (.invokevirtual 75, 3) := by decide +kernel
theorem dL_areClocks_179 : decode cL_areClocks 179 = .ok (.aload_n 2, 1) := by decide +kernel
theorem dL_areClocks_180 : decode cL_areClocks 180 = .ok (.iload 11, 2) := by decide +kernel
theorem dL_areClocks_182 : decode cL_areClocks 182 = .ok (.iload 13, 2) := by decide +kernel
theorem dL_areClocks_184 : decode cL_areClocks 184 = .ok (.iadd, 1) := by decide +kernel
theorem dL_areClocks_185 : decode cL_areClocks 185 = .ok (.iaload, 1) := by decide +kernel
theorem dL_areClocks_186 : decode cL_areClocks 186 = .ok (.if_icmp .ne 7, 3) := by decide +kernel
theorem dL_areClocks_189 : decode cL_areClocks 189 = .ok (.iconst 1, 1) := by decide +kernel
theorem dL_areClocks_190 : decode cL_areClocks 190 = .ok (.goto 4, 3) := by decide +kernel
theorem dL_areClocks_193 : decode cL_areClocks 193 = .ok (.iconst 0, 1) := by decide +kernel
theorem dL_areClocks_194 : decode cL_areClocks 194 = .ok (.istore 4, 2) := by decide +kernel
theorem dL_areClocks_196 : decode cL_areClocks 196 = .ok (.iinc 13 1, 3) := by decide +kernel
theorem dL_areClocks_199 : decode cL_areClocks 199 = .ok (.goto (-39), 3) := by decide +kernel
theorem dL_areClocks_202 : decode cL_areClocks 202 = .ok (.iload 4, 2) := by decide +kernel
theorem dL_areClocks_204 : decode cL_areClocks 204 = .ok (.ifCond .eq 204, 3) := by decide +kernel
theorem dL_areClocks_207 : decode cL_areClocks 207 = .ok (.aload_n 0, 1) := by decide +kernel
theorem dL_areClocks_208 : decode cL_areClocks 208 = .ok (.iload 10, 2) := by decide +kernel
theorem dL_areClocks_210 : decode cL_areClocks 210 = .ok (.iconst 5, 1) := by decide +kernel
theorem dL_areClocks_211 : decode cL_areClocks 211 = .ok (.invokevirtual 75, 3) := by decide +kernel
theorem dL_areClocks_214 : decode cL_areClocks 214 = .ok (.aload_n 2, 1) := by decide +kernel
theorem dL_areClocks_215 : decode cL_areClocks 215 = .ok (.iload 11, 2) := by decide +kernel
theorem dL_areClocks_217 : decode cL_areClocks 217 = .ok (.bipush 6, 2) := by decide +kernel
theorem dL_areClocks_219 : decode cL_areClocks 219 = .ok (.iadd, 1) := by decide +kernel
theorem dL_areClocks_220 : decode cL_areClocks 220 = .ok (.iaload, 1) := by decide +kernel
theorem dL_areClocks_221 : decode cL_areClocks 221 = .ok (.if_icmp .ne 187, 3) := by decide +kernel
theorem dL_areClocks_224 : decode cL_areClocks 224 = .ok (.aload_n 0, 1) := by decide +kernel
theorem dL_areClocks_225 : decode cL_areClocks 225 = .ok (.iload 10, 2) := by decide +kernel
theorem dL_areClocks_227 : decode cL_areClocks 227 = .ok (.bipush 6, 2) := by decide +kernel
theorem dL_areClocks_229 : decode cL_areClocks 229 = .ok (.invokevirtual 75, 3) := by decide +kernel
theorem dL_areClocks_232 : decode cL_areClocks 232 = .ok (.aload_n 2, 1) := by decide +kernel
theorem dL_areClocks_233 : decode cL_areClocks 233 = .ok (.iload 11, 2) := by decide +kernel
theorem dL_areClocks_235 : decode cL_areClocks 235 = .ok (.bipush 7, 2) := by decide +kernel
theorem dL_areClocks_237 : decode cL_areClocks 237 = .ok (.iadd, 1) := by decide +kernel
theorem dL_areClocks_238 : decode cL_areClocks 238 = .ok (.iaload, 1) := by decide +kernel
theorem dL_areClocks_239 : decode cL_areClocks 239 = .ok (.if_icmp .ne 169, 3) := by decide +kernel
theorem dL_areClocks_242 : decode cL_areClocks 242 = .ok (.aload_n 0, 1) := by decide +kernel
theorem dL_areClocks_243 : decode cL_areClocks 243 = .ok (.iload 10, 2) := by decide +kernel
theorem dL_areClocks_245 : decode cL_areClocks 245 = .ok (.bipush 7, 2) := by decide +kernel
theorem dL_areClocks_247 : decode cL_areClocks 247 = .ok (.invokevirtual 75, 3) := by decide +kernel
theorem dL_areClocks_250 : decode cL_areClocks 250 = .ok (.aload_n 2, 1) := by decide +kernel
theorem dL_areClocks_251 : decode cL_areClocks 251 = .ok (.iload 10, 2) := by decide +kernel
theorem dL_areClocks_253 : decode cL_areClocks 253 = .ok (.invokestatic 67, 3) := by decide +kernel
theorem dL_areClocks_256 : decode cL_areClocks 256 = .ok (.if_icmp .ne 152, 3) := by decide +kernel
theorem dL_areClocks_259 : decode cL_areClocks 259 = .ok (.aload_n 0, 1) := by decide +kernel
theorem dL_areClocks_260 : decode cL_areClocks 260 = .ok (.iload 10, 2) := by decide +kernel
theorem dL_areClocks_262 : decode cL_areClocks 262 = .ok (.bipush 8, 2) := by decide +kernel
theorem dL_areClocks_264 : decode cL_areClocks 264 = .ok (.invokevirtual 75, 3) := by decide +kernel
theorem dL_areClocks_267 : decode cL_areClocks 267 = .ok (.aload_n 3, 1) := by decide +kernel
theorem dL_areClocks_268 : decode cL_areClocks 268 = .ok (.iload 12, 2) := by decide +kernel
theorem dL_areClocks_270 : decode cL_areClocks 270 = .ok (.iaload, 1) := by decide +kernel
theorem dL_areClocks_271 : decode cL_areClocks 271 = .ok (.if_icmp .ne 137, 3) := by decide +kernel
theorem dL_areClocks_274 : decode cL_areClocks 274 = .ok (.aload_n 0, 1) := by decide +kernel
theorem dL_areClocks_275 : decode cL_areClocks 275 = .ok (.iload 10, 2) := by decide +kernel
theorem dL_areClocks_277 : decode cL_areClocks 277 = .ok (.bipush 9, 2) := by decide +kernel
theorem dL_areClocks_279 : decode cL_areClocks 279 = .ok (.invokevirtual 75, 3) := by decide +kernel
theorem dL_areClocks_282 : decode cL_areClocks 282 = .ok (.aload_n 3, 1) := by decide +kernel
theorem dL_areClocks_283 : decode cL_areClocks 283 = .ok (.iload 12, 2) := by decide +kernel
theorem dL_areClocks_285 : decode cL_areClocks 285 = .ok (.iconst 1, 1) := by decide +kernel
theorem dL_areClocks_286 : decode cL_areClocks 286 = .ok (.iadd, 1) := by decide +kernel
theorem dL_areClocks_287 : decode cL_areClocks 287 = .ok (.iaload, 1) := by decide +kernel
theorem dL_areClocks_288 : decode cL_areClocks 288 = .ok (.if_icmp .ne 120, 3) := by decide +kernel
theorem dL_areClocks_291 : decode cL_areClocks 291 = .ok (.aload_n 0, 1) := by decide +kernel
theorem dL_areClocks_292 : decode cL_areClocks 292 = .ok (.iload 10, 2) := by decide +kernel
theorem dL_areClocks_294 : decode cL_areClocks 294 = .ok (.bipush 10, 2) := by decide +kernel
theorem dL_areClocks_296 : decode cL_areClocks 296 = .ok (.invokevirtual 75, 3) := by decide +kernel
theorem dL_areClocks_299 : decode cL_areClocks 299 = .ok (.aload_n 3, 1) := by decide +kernel
theorem dL_areClocks_300 : decode cL_areClocks 300 = .ok (.iload 12, 2) := by decide +kernel
theorem dL_areClocks_302 : decode cL_areClocks 302 = .ok (.iaload, 1) := by decide +kernel
theorem dL_areClocks_303 : decode cL_areClocks 303 = .ok (.ifCond .ne 8, 3) := by decide +kernel
theorem dL_areClocks_306 : decode cL_areClocks 306 = .ok (.ldc 78, 2) := by decide +kernel
theorem dL_areClocks_308 : decode cL_areClocks 308 = .ok (.goto 9, 3) := by decide +kernel
theorem dL_areClocks_311 : decode cL_areClocks 311 = .ok (.aload_n 3, 1) := by decide +kernel
theorem dL_areClocks_312 : decode cL_areClocks 312 = .ok (.iload 12, 2) := by decide +kernel
theorem dL_areClocks_314 : decode cL_areClocks 314 = .ok (.iconst 3, 1) := by decide +kernel
theorem dL_areClocks_315 : decode cL_areClocks 315 = .ok (.iadd, 1) := by decide +kernel
theorem dL_areClocks_316 : decode cL_areClocks 316 = .ok (.iaload, 1) := by decide +kernel
theorem dL_areClocks_317 : decode cL_areClocks 317 = .ok (.if_icmp .ne 91, 3) := by decide +kernel
theorem dL_areClocks_320 : decode cL_areClocks 320 = .ok (.aload_n 0, 1) := by decide +kernel
theorem dL_areClocks_321 : decode cL_areClocks 321 = .ok (.iload 10, 2) := by decide +kernel
theorem dL_areClocks_323 : decode cL_areClocks 323 = .ok (.bipush 11, 2) := by decide +kernel
theorem dL_areClocks_325 : decode cL_areClocks 325 = .ok (.invokevirtual 75, 3) := by decide +kernel
theorem dL_areClocks_328 : decode cL_areClocks 328 = .ok (.aload_n 3, 1) := by decide +kernel
theorem dL_areClocks_329 : decode cL_areClocks 329 = .ok (.iload 12, 2) := by decide +kernel
theorem dL_areClocks_331 : decode cL_areClocks 331 = .ok (.iconst 4, 1) := by decide +kernel
theorem dL_areClocks_332 : decode cL_areClocks 332 = .ok (.iadd, 1) := by decide +kernel
theorem dL_areClocks_333 : decode cL_areClocks 333 = .ok (.iaload, 1) := by decide +kernel
theorem dL_areClocks_334 : decode cL_areClocks 334 = .ok (.if_icmp .ne 74, 3) := by decide +kernel
theorem dL_areClocks_337 : decode cL_areClocks 337 = .ok (.aload_n 0, 1) := by decide +kernel
theorem dL_areClocks_338 : decode cL_areClocks 338 = .ok (.iload 10, 2) := by decide +kernel
theorem dL_areClocks_340 : decode cL_areClocks 340 = .ok (.bipush 12, 2) := by decide +kernel
theorem dL_areClocks_342 : decode cL_areClocks 342 = .ok (.invokevirtual 75, 3) := by decide +kernel
theorem dL_areClocks_345 : decode cL_areClocks 345 = .ok (.aload_n 3, 1) := by decide +kernel
theorem dL_areClocks_346 : decode cL_areClocks 346 = .ok (.iload 12, 2) := by decide +kernel
theorem dL_areClocks_348 : decode cL_areClocks 348 = .ok (.iconst 5, 1) := by decide +kernel
theorem dL_areClocks_349 : decode cL_areClocks 349 = .ok (.iadd, 1) := by decide +kernel
theorem dL_areClocks_350 : decode cL_areClocks 350 = .ok (.iaload, 1) := by decide +kernel
theorem dL_areClocks_351 : decode cL_areClocks 351 = .ok (.if_icmp .ne 57, 3) := by decide +kernel
theorem dL_areClocks_354 : decode cL_areClocks 354 = .ok (.aload_n 0, 1) := by decide +kernel
theorem dL_areClocks_355 : decode cL_areClocks 355 = .ok (.iload 10, 2) := by decide +kernel
theorem dL_areClocks_357 : decode cL_areClocks 357 = .ok (.bipush 13, 2) := by decide +kernel
theorem dL_areClocks_359 : decode cL_areClocks 359 = .ok (.invokevirtual 75, 3) := by decide +kernel
theorem dL_areClocks_362 : decode cL_areClocks 362 = .ok (.aload_n 3, 1) := by decide +kernel
theorem dL_areClocks_363 : decode cL_areClocks 363 = .ok (.iload 12, 2) := by decide +kernel
theorem dL_areClocks_365 : decode cL_areClocks 365 = .ok (.bipush 6, 2) := by decide +kernel
theorem dL_areClocks_367 : decode cL_areClocks 367 = .ok (.iadd, 1) := by decide +kernel
theorem dL_areClocks_368 : decode cL_areClocks 368 = .ok (.iaload, 1) := by decide +kernel
theorem dL_areClocks_369 : decode cL_areClocks 369 = .ok (.if_icmp .ne 39, 3) := by decide +kernel
theorem dL_areClocks_372 : decode cL_areClocks 372 = .ok (.aload_n 0, 1) := by decide +kernel
theorem dL_areClocks_373 : decode cL_areClocks 373 = .ok (.iload 10, 2) := by decide +kernel
theorem dL_areClocks_375 : decode cL_areClocks 375 = .ok (.bipush 14, 2) := by decide +kernel
theorem dL_areClocks_377 : decode cL_areClocks 377 = .ok (.invokevirtual 75, 3) := by decide +kernel
theorem dL_areClocks_380 : decode cL_areClocks 380 = .ok (.ldc 41, 2) := by decide +kernel
theorem dL_areClocks_382 : decode cL_areClocks 382 = .ok (.if_icmp .ne 26, 3) := by decide +kernel
theorem dL_areClocks_385 : decode cL_areClocks 385 = .ok (.aload_n 2, 1) := by decide +kernel
theorem dL_areClocks_386 : decode cL_areClocks 386 = .ok (.iload 10, 2) := by decide +kernel
theorem dL_areClocks_388 : decode cL_areClocks 388 = .ok (.invokestatic 67, 3) := by decide +kernel
theorem dL_areClocks_391 : decode cL_areClocks 391 = .ok (.ifCond .le 17, 3) := by decide +kernel
theorem dL_areClocks_394 : decode cL_areClocks 394 = .ok (.aload_n 2, 1) := by decide +kernel
theorem dL_areClocks_395 : decode cL_areClocks 395 = .ok (.iload 11, 2) := by decide +kernel
theorem dL_areClocks_397 : decode cL_areClocks 397 = .ok (.bipush 7, 2) := by decide +kernel
theorem dL_areClocks_399 : decode cL_areClocks 399 = .ok (.iadd, 1) := by decide +kernel
theorem dL_areClocks_400 : decode cL_areClocks 400 = .ok (.iaload, 1) := by decide +kernel
theorem dL_areClocks_401 : decode cL_areClocks 401 = .ok (.ifCond .lt 7, 3) := by decide +kernel
theorem dL_areClocks_404 : decode cL_areClocks 404 = .ok (.iconst 1, 1) := by decide +kernel
theorem dL_areClocks_405 : decode cL_areClocks 405 = .ok (.goto 4, 3) := by decide +kernel
theorem dL_areClocks_408 : decode cL_areClocks 408 = .ok (.iconst 0, 1) := by decide +kernel
theorem dL_areClocks_409 : decode cL_areClocks 409 = .ok (.istore 4, 2) := by decide +kernel
theorem dL_areClocks_411 : decode cL_areClocks 411 = .ok (.iinc 10 1, 3) := by decide +kernel
theorem dL_areClocks_414 : decode cL_areClocks 414 = .ok (.goto (-364), 3) := by decide +kernel
theorem dL_areClocks_417 : decode cL_areClocks 417 = .ok (.iload 4, 2) := by decide +kernel
theorem dL_areClocks_419 : decode cL_areClocks 419 = .ok (.ifCond .eq 60, 3) := by decide +kernel
theorem dL_areClocks_422 : decode cL_areClocks 422 = .ok (.aload_n 0, 1) := by decide +kernel
theorem dL_areClocks_423 : decode cL_areClocks 423 = .ok (.iconst 4, 1) := by decide +kernel
theorem dL_areClocks_424 : decode cL_areClocks 424 = .ok (.invokevirtual 79, 3) := by decide +kernel
theorem dL_areClocks_427 : decode cL_areClocks 427 = .ok (.iload 5, 2) := by decide +kernel
theorem dL_areClocks_429 : decode cL_areClocks 429 = .ok (.if_icmp .ne 50, 3) := by decide +kernel
theorem dL_areClocks_432 : decode cL_areClocks 432 = .ok (.aload_n 0, 1) := by decide +kernel
theorem dL_areClocks_433 : decode cL_areClocks 433 = .ok (.iconst 5, 1) := by decide +kernel
theorem dL_areClocks_434 : decode cL_areClocks 434 = .ok (.invokevirtual 79, 3) := by decide +kernel
theorem dL_areClocks_437 : decode cL_areClocks 437 = .ok (.iload 6, 2) := by decide +kernel
theorem dL_areClocks_439 : decode cL_areClocks 439 = .ok (.if_icmp .ne 40, 3) := by decide +kernel
theorem dL_areClocks_442 : decode cL_areClocks 442 = .ok (.aload_n 0, 1) := by decide +kernel
theorem dL_areClocks_443 : decode cL_areClocks 443 = .ok (.bipush 6, 2) := by decide +kernel
theorem dL_areClocks_445 : decode cL_areClocks 445 = .ok (.invokevirtual 79, 3) := by decide +kernel
theorem dL_areClocks_448 : decode cL_areClocks 448 = .ok (.iload 7, 2) := by decide +kernel
theorem dL_areClocks_450 : decode cL_areClocks 450 = .ok (.if_icmp .ne 29, 3) := by decide +kernel
theorem dL_areClocks_453 : decode cL_areClocks 453 = .ok (.aload_n 0, 1) := by decide +kernel
theorem dL_areClocks_454 : decode cL_areClocks 454 = .ok (.bipush 7, 2) := by decide +kernel
theorem dL_areClocks_456 : decode cL_areClocks 456 = .ok (.invokevirtual 79, 3) := by decide +kernel
theorem dL_areClocks_459 : decode cL_areClocks 459 = .ok (.iload 8, 2) := by decide +kernel
theorem dL_areClocks_461 : decode cL_areClocks 461 = .ok (.if_icmp .ne 18, 3) := by decide +kernel
theorem dL_areClocks_464 : decode cL_areClocks 464 = .ok (.aload_n 0, 1) := by decide +kernel
theorem dL_areClocks_465 : decode cL_areClocks 465 = .ok (.bipush 8, 2) := by decide +kernel
theorem dL_areClocks_467 : decode cL_areClocks 467 = .ok (.invokevirtual 79, 3) := by decide +kernel
theorem dL_areClocks_470 : decode cL_areClocks 470 = .ok (.iload 9, 2) := by decide +kernel
theorem dL_areClocks_472 : decode cL_areClocks 472 = .ok (.if_icmp .ne 7, 3) := by decide +kernel
theorem dL_areClocks_475 : decode cL_areClocks 475 = .ok (.iconst 1, 1) := by decide +kernel
theorem dL_areClocks_476 : decode cL_areClocks 476 = .ok (.goto 4, 3) := by decide +kernel
theorem dL_areClocks_479 : decode cL_areClocks 479 = .ok (.iconst 0, 1) := by decide +kernel
theorem dL_areClocks_480 : decode cL_areClocks 480 = .ok (.ireturn, 1) := by decide +kernel
theorem dL_areGroups_0 : decode cL_areGroups 0 = .ok (.aload_n 0, 1) := by decide +kernel
theorem dL_areGroups_1 : decode cL_areGroups 1 = .ok (.aload_n 1, 1) := by decide +kernel
theorem dL_areGroups_2 : decode cL_areGroups 2 = .ok (.iconst 1, 1) := by decide +kernel
theorem dL_areGroups_3 : decode cL_areGroups 3 = .ok (.iaload, 1) := by decide +kernel
theorem dL_areGroups_4 : decode cL_areGroups 4 = .ok (.iconst 0, 1) := by decide +kernel
theorem dL_areGroups_5 : decode cL_areGroups 5 = .ok (.invokevirtual 82, 3) := by decide +kernel
theorem dL_areGroups_8 : decode cL_areGroups 8 = .ok (.ldc 41, 2) := by decide +kernel
theorem dL_areGroups_10 : decode cL_areGroups 10 = .ok (.if_icmp .ne 18, 3) := by decide +kernel
theorem dL_areGroups_13 : decode cL_areGroups 13 = .ok (.aload_n 0, 1) := by decide +kernel
theorem dL_areGroups_14 : decode cL_areGroups 14 = .ok (.iconst (-1), 1) := by decide +kernel
theorem dL_areGroups_15 : decode cL_areGroups 15 = .ok (.iconst 0, 1) := by decide +kernel
theorem dL_areGroups_16 : decode cL_areGroups 16 = .ok (.invokevirtual 82, 3) := by decide +kernel
theorem dL_areGroups_19 : decode cL_areGroups 19 = .ok (.ldc 41, 2) := by decide +kernel
theorem dL_areGroups_21 : decode cL_areGroups 21 = .ok (.if_icmp .ne 7, 3) := by decide +kernel
theorem dL_areGroups_24 : decode cL_areGroups 24 = .ok (.iconst 1, 1) := by decide +kernel
theorem dL_areGroups_25 : decode cL_areGroups 25 = .ok (.goto 4, 3) := by decide +kernel
theorem dL_areGroups_28 : decode cL_areGroups 28 = .ok (.iconst 0, 1) := by decide +kernel
theorem dL_areGroups_29 : decode cL_areGroups 29 = .ok (.istore 5, 2) := by decide +kernel
theorem dL_areGroups_31 : decode cL_areGroups 31 = .ok (.iconst 0, 1) := by decide +kernel
theorem dL_areGroups_32 : decode cL_areGroups 32 = .ok (.istore 6, 2) := by decide +kernel
theorem dL_areGroups_34 : decode cL_areGroups 34 = .ok (.iload 6, 2) := by decide +kernel
theorem dL_areGroups_36 : decode cL_areGroups 36 = .ok (.aload_n 1, 1) := by decide +kernel
theorem dL_areGroups_37 : decode cL_areGroups 37 = .ok (.iconst 1, 1) := by decide +kernel
theorem dL_areGroups_38 : decode cL_areGroups 38 = .ok (.iaload, 1) := by decide +kernel
theorem dL_areGroups_39 : decode cL_areGroups 39 = .ok (.if_icmp .ge 251, 3) := by decide +kernel
theorem dL_areGroups_42 : decode cL_areGroups 42 = .ok (.iload 5, 2) := by decide +kernel
theorem dL_areGroups_44 : decode cL_areGroups 44 = .ok (.ifCond .eq 246, 3) := by decide +kernel
theorem dL_areGroups_47 : decode cL_areGroups 47 = .ok (.iconst 0, 1) := by decide +kernel
theorem dL_areGroups_48 : decode cL_areGroups 48 = .ok (.istore 7, 2) := by decide +kernel
theorem dL_areGroups_50 : decode cL_areGroups 50 = .ok (.ldc 78, 2) := by decide +kernel
theorem dL_areGroups_52 : decode cL_areGroups 52 = .ok (.istore 8, 2) := by decide +kernel
theorem dL_areGroups_54 : decode cL_areGroups 54 = .ok (.iconst 0, 1) := by decide +kernel
theorem dL_areGroups_55 : decode cL_areGroups 55 = .ok (.istore 9, 2) := by decide +kernel
theorem dL_areGroups_57 : decode cL_areGroups 57 = .ok (.iload 9, 2) := by decide +kernel
theorem dL_areGroups_59 : decode cL_areGroups 59 = .ok (.aload_n 1, 1) := by decide +kernel
theorem dL_areGroups_60 : decode cL_areGroups 60 = .ok (.iconst 0, 1) := by decide +kernel
theorem dL_areGroups_61 : decode cL_areGroups 61 = .ok (.iaload, 1) := by decide +kernel
theorem dL_areGroups_62 : decode cL_areGroups 62 = .ok (.if_icmp .ge 99, 3) := by decide +kernel
theorem dL_areGroups_65 : decode cL_areGroups 65 = .ok (.aload 4, 2) := by decide +kernel
theorem dL_areGroups_67 : decode cL_areGroups 67 = .ok (.iconst 4, 1) := by decide +kernel
theorem dL_areGroups_68 : decode cL_areGroups 68 = .ok (.iload 6, 2) := by decide +kernel
theorem dL_areGroups_70 : decode cL_areGroups 70 = .ok (.imul, 1) := by decide +kernel
theorem dL_areGroups_71 : decode cL_areGroups 71 = .ok (.iconst 1, 1) := by decide +kernel
theorem dL_areGroups_72 : decode cL_areGroups 72 = .ok (.iadd, 1) := by decide +kernel
theorem dL_areGroups_73 : decode cL_areGroups 73 = .ok (.iaload, 1) := by decide +kernel
theorem dL_areGroups_74 : decode cL_areGroups 74 = .ok (.iload 9, 2) := by decide +kernel
theorem dL_areGroups_76 : decode cL_areGroups 76 = .ok (.ishr, 1) := by decide +kernel
theorem dL_areGroups_77 : decode cL_areGroups 77 = .ok (.iconst 1, 1) := by decide +kernel
theorem dL_areGroups_78 : decode cL_areGroups 78 = .ok (.iand, 1) := by decide +kernel
theorem dL_areGroups_79 : decode cL_areGroups 79 = .ok (.iconst 1, 1) := by decide +kernel
theorem dL_areGroups_80 : decode cL_areGroups 80 = .ok (.if_icmp .ne 75, 3) := by decide +kernel
theorem dL_areGroups_83 : decode cL_areGroups 83 = .ok (.iload 7, 2) := by decide +kernel
theorem dL_areGroups_85 : decode cL_areGroups 85 = .ok (.aload_n 3, 1) := by decide +kernel
theorem dL_areGroups_86 : decode cL_areGroups 86 = .ok (.bipush 7, 2) := by decide +kernel
theorem dL_areGroups_88 : decode cL_areGroups 88 = .ok (.iload 9, 2) := by decide +kernel
theorem dL_areGroups_90 : decode cL_areGroups 90 = .ok (.imul, 1) := by decide +kernel
theorem dL_areGroups_91 : decode cL_areGroups 91 = .ok (.iconst 1, 1) := by decide +kernel
theorem dL_areGroups_92 : decode cL_areGroups 92 = .ok (.iadd, 1) := by decide +kernel
theorem dL_areGroups_93 : decode cL_areGroups 93 = .ok (.iaload, 1) := by decide +kernel
theorem dL_areGroups_94 : decode cL_areGroups 94 = .ok (.iadd, 1) := by decide +kernel
theorem dL_areGroups_95 : decode cL_areGroups 95 = .ok (.istore 7, 2) := by decide +kernel
theorem dL_areGroups_97 : decode cL_areGroups 97 = .ok (.iload 8, 2) := by decide +kernel
theorem dL_areGroups_99 : decode cL_areGroups 99 = .ok (.ifCond .lt 14, 3) := by decide +kernel
theorem dL_areGroups_102 : decode cL_areGroups 102 = .ok (.aload_n 2, 1) := by decide +kernel
theorem dL_areGroups_103 : decode cL_areGroups 103 = .ok (.iload 9, 2) := by decide +kernel
theorem dL_areGroups_105 : decode cL_areGroups 105 = .ok (.invokestatic 67, 3) := by decide +kernel
theorem dL_areGroups_108 : decode cL_areGroups 108 = .ok (.iload 8, 2) := by decide +kernel
theorem dL_areGroups_110 : decode cL_areGroups 110 = .ok (.if_icmp .ge 12, 3) := by decide +kernel
theorem dL_areGroups_113 : decode cL_areGroups 113 = .ok (.aload_n 2, 1) := by decide +kernel
theorem dL_areGroups_114 : decode cL_areGroups 114 = .ok (.iload 9, 2) := by decide +kernel
theorem dL_areGroups_116 : decode cL_areGroups 116 = .ok (.invokestatic 67, 3) := by decide +kernel
theorem dL_areGroups_119 : decode cL_areGroups 119 = .ok (.goto 5, 3) := by decide +kernel
theorem dL_areGroups_122 : decode cL_areGroups 122 = .ok (.iload 8, 2) := by decide +kernel
theorem dL_areGroups_124 : decode cL_areGroups 124 = .ok (.istore 8, 2) := by decide +kernel
theorem dL_areGroups_126 : decode cL_areGroups 126 = .ok (.iload 5, 2) := by decide +kernel
theorem dL_areGroups_128 : decode cL_areGroups 128 = .ok (.ifCond .eq 24, 3) := by decide +kernel
theorem dL_areGroups_131 : decode cL_areGroups 131 = .ok (.aload_n 2, 1) := by decide +kernel
theorem dL_areGroups_132 : decode cL_areGroups 132 = .ok (.bipush 8, 2) := by decide +kernel
theorem dL_areGroups_134 : decode cL_areGroups 134 = .ok (.iload 9, 2) := by decide +kernel
theorem dL_areGroups_136 : decode cL_areGroups 136 = .ok (.imul, 1) := by decide +kernel
theorem dL_areGroups_137 : decode cL_areGroups 137 = .ok (.iaload, 1) := by decide +kernel
theorem dL_areGroups_138 : decode cL_areGroups 138 = .ok (.aload 4, 2) := by decide +kernel
theorem dL_areGroups_140 : decode cL_areGroups 140 = .ok (.iconst 4, 1) := by decide +kernel
theorem dL_areGroups_141 : decode cL_areGroups 141 = .ok (.iload 6, 2) := by decide +kernel
theorem dL_areGroups_143 : decode cL_areGroups 143 = .ok (.imul, 1) := by decide +kernel
theorem dL_areGroups_144 : decode cL_areGroups 144 = .ok (.iaload, 1) := by decide +kernel
theorem dL_areGroups_145 : decode cL_areGroups 145 = .ok (.if_icmp .ne 7, 3) := by decide +kernel
theorem dL_areGroups_148 : decode cL_areGroups 148 = .ok (.iconst 1, 1) := by decide +kernel
theorem dL_areGroups_149 : decode cL_areGroups 149 = .ok (.goto 4, 3) := by decide +kernel
theorem dL_areGroups_152 : decode cL_areGroups 152 = .ok (.iconst 0, 1) := by decide +kernel
theorem dL_areGroups_153 : decode cL_areGroups 153 = .ok (.istore 5, 2) := by decide +kernel
theorem dL_areGroups_155 : decode cL_areGroups 155 = .ok (.iinc 9 1, 3) := by decide +kernel
theorem dL_areGroups_158 : decode cL_areGroups 158 = .ok (.goto (-101), 3) := by decide +kernel
theorem dL_areGroups_161 : decode cL_areGroups 161 = .ok (.iload 5, 2) := by decide +kernel
theorem dL_areGroups_163 : decode cL_areGroups 163 = .ok (.ifCond .eq 118, 3) := by decide +kernel
theorem dL_areGroups_166 : decode cL_areGroups 166 = .ok (.aload_n 0, 1) := by decide +kernel
theorem dL_areGroups_167 : decode cL_areGroups 167 = .ok (.iload 6, 2) := by decide +kernel
theorem dL_areGroups_169 : decode cL_areGroups 169 = .ok (.iconst 0, 1) := by decide +kernel
theorem dL_areGroups_170 : decode cL_areGroups 170 = .ok (.invokevirtual 82, 3) := by decide +kernel
theorem dL_areGroups_173 : decode cL_areGroups 173 = .ok (.aload 4, 2) := by decide +kernel
theorem dL_areGroups_175 : decode cL_areGroups 175 = .ok (.iconst 4, 1) := by decide +kernel
theorem dL_areGroups_176 : decode cL_areGroups 176 = .ok (.iload 6, 2) := by decide +kernel
theorem dL_areGroups_178 : decode cL_areGroups 178 = .ok (.imul, 1) := by decide +kernel
theorem dL_areGroups_179 : decode cL_areGroups 179 = .ok (.iaload, 1) := by decide +kernel
theorem dL_areGroups_180 : decode cL_areGroups 180 = .ok (.if_icmp .ne 101, 3) := by decide +kernel
theorem dL_areGroups_183 : decode cL_areGroups 183 = .ok (.aload_n 0, 1) := by decide +kernel
theorem dL_areGroups_184 : decode cL_areGroups 184 = .ok (.iload 6, 2) := by decide +kernel
theorem dL_areGroups_186 : decode cL_areGroups 186 = .ok (.iconst 1, 1) := by decide +kernel
theorem dL_areGroups_187 : decode cL_areGroups 187 = .ok (.invokevirtual 82, 3) := by decide +kernel
theorem dL_areGroups_190 : decode cL_areGroups 190 = .ok (.aload 4, 2) := by decide +kernel
theorem dL_areGroups_192 : decode cL_areGroups 192 = .ok (.iconst 4, 1) := by decide +kernel
theorem dL_areGroups_193 : decode cL_areGroups 193 = .ok (.iload 6, 2) := by decide +kernel
theorem dL_areGroups_195 : decode cL_areGroups 195 = .ok (.imul, 1) := by decide +kernel
theorem dL_areGroups_196 : decode cL_areGroups 196 = .ok (.iconst 1, 1) := by decide +kernel
theorem dL_areGroups_197 : decode cL_areGroups 197 = .ok (.iadd, 1) := by decide +kernel
theorem dL_areGroups_198 : decode cL_areGroups 198 = .ok (.iaload, 1) := by decide +kernel
theorem dL_areGroups_199 : decode cL_areGroups 199 = .ok (.if_icmp .ne 82, 3) := by decide +kernel
theorem dL_areGroups_202 : decode cL_areGroups 202 = .ok (.aload_n 0, 1) := by decide +kernel
theorem dL_areGroups_203 : decode cL_areGroups 203 = .ok (.iload 6, 2) := by decide +kernel
theorem dL_areGroups_205 : decode cL_areGroups 205 = .ok (.iconst 2, 1) := by decide +kernel
theorem dL_areGroups_206 : decode cL_areGroups 206 = .ok (.invokevirtual 82, 3) := by decide +kernel
theorem dL_areGroups_209 : decode cL_areGroups 209 = .ok (.iload 8, 2) := by decide +kernel
theorem dL_areGroups_211 : decode cL_areGroups 211 = .ok (.if_icmp .ne 70, 3) := by decide +kernel
theorem dL_areGroups_214 : decode cL_areGroups 214 = .ok (.aload_n 0, 1) := by decide +kernel
theorem dL_areGroups_215 : decode cL_areGroups 215 = .ok (.iload 6, 2) := by decide +kernel
theorem dL_areGroups_217 : decode cL_areGroups 217 = .ok (.iconst 3, 1) := by decide +kernel
theorem dL_areGroups_218 : decode cL_areGroups 218 = .ok (.invokevirtual 82, 3) := by decide +kernel
theorem dL_areGroups_221 : decode cL_areGroups 221 = .ok (.aload 4, 2) := by decide +kernel
theorem dL_areGroups_223 : decode cL_areGroups 223 = .ok (.iconst 4, 1) := by decide +kernel
theorem dL_areGroups_224 : decode cL_areGroups 224 = .ok (.iload 6, 2) := by decide +kernel
theorem dL_areGroups_226 : decode cL_areGroups 226 = .ok (.imul, 1) := by decide +kernel
theorem dL_areGroups_227 : decode cL_areGroups 227 = .ok (.iconst 2, 1) := by decide +kernel
theorem dL_areGroups_228 : decode cL_areGroups 228 = .ok (.iadd, 1) := by decide +kernel
theorem dL_areGroups_229 : decode cL_areGroups 229 = .ok (.iaload, 1) := by decide +kernel
theorem dL_areGroups_230 : decode cL_areGroups 230 = .ok (.if_icmp .ne 51, 3) := by decide +kernel
theorem dL_areGroups_233 : decode cL_areGroups 233 = .ok (.aload_n 0, 1) := by decide +kernel
theorem dL_areGroups_234 : decode cL_areGroups 234 = .ok (.iload 6, 2) := by decide +kernel
theorem dL_areGroups_236 : decode cL_areGroups 236 = .ok (.iconst 4, 1) := by decide +kernel
theorem dL_areGroups_237 : decode cL_areGroups 237 = .ok (.invokevirtual 82, 3) := by decide +kernel
theorem dL_areGroups_240 : decode cL_areGroups 240 = .ok (.aload 4, 2) := by decide +kernel
theorem dL_areGroups_242 : decode cL_areGroups 242 = .ok (.iconst 4, 1) := by decide +kernel
theorem dL_areGroups_243 : decode cL_areGroups 243 = .ok (.iload 6, 2) := by decide +kernel
theorem dL_areGroups_245 : decode cL_areGroups 245 = .ok (.imul, 1) := by decide +kernel
theorem dL_areGroups_246 : decode cL_areGroups 246 = .ok (.iconst 3, 1) := by decide +kernel
theorem dL_areGroups_247 : decode cL_areGroups 247 = .ok (.iadd, 1) := by decide +kernel
theorem dL_areGroups_248 : decode cL_areGroups 248 = .ok (.iaload, 1) := by decide +kernel
theorem dL_areGroups_249 : decode cL_areGroups 249 = .ok (.if_icmp .ne 32, 3) := by decide +kernel
theorem dL_areGroups_252 : decode cL_areGroups 252 = .ok (.aload_n 0, 1) := by decide +kernel
theorem dL_areGroups_253 : decode cL_areGroups 253 = .ok (.iload 6, 2) := by decide +kernel
theorem dL_areGroups_255 : decode cL_areGroups 255 = .ok (.iconst 5, 1) := by decide +kernel
theorem dL_areGroups_256 : decode cL_areGroups 256 = .ok (.invokevirtual 82, 3) := by decide +kernel
theorem dL_areGroups_259 : decode cL_areGroups 259 = .ok (.iload 7, 2) := by decide +kernel
theorem dL_areGroups_261 : decode cL_areGroups 261 = .ok (.if_icmp .ne 20, 3) := by decide +kernel
theorem dL_areGroups_264 : decode cL_areGroups 264 = .ok (.aload_n 0, 1) := by decide +kernel
theorem dL_areGroups_265 : decode cL_areGroups 265 = .ok (.iload 6, 2) := by decide +kernel
theorem dL_areGroups_267 : decode cL_areGroups 267 = .ok (.bipush 6, 2) := by decide +kernel
theorem dL_areGroups_269 : decode cL_areGroups 269 = .ok (.invokevirtual 82, 3) := by decide +kernel
theorem dL_areGroups_272 : decode cL_areGroups 272 = .ok (.ldc 41, 2) := by decide +kernel
theorem dL_areGroups_274 : decode cL_areGroups 274 = .ok (.if_icmp .ne 7, 3) := by decide +kernel
theorem dL_areGroups_277 : decode cL_areGroups 277 = .ok (.iconst 1, 1) := by decide +kernel
theorem dL_areGroups_278 : decode cL_areGroups 278 = .ok (.goto 4, 3) := by decide +kernel
theorem dL_areGroups_281 : decode cL_areGroups 281 = .ok (.iconst 0, 1) := by decide +kernel
theorem dL_areGroups_282 : decode cL_areGroups 282 = .ok (.istore 5, 2) := by decide +kernel
theorem dL_areGroups_284 : decode cL_areGroups 284 = .ok (.iinc 6 1, 3) := by decide +kernel
theorem dL_areGroups_287 : decode cL_areGroups 287 = .ok (.goto (-253), 3) := by decide +kernel
theorem dL_areGroups_290 : decode cL_areGroups 290 = .ok (.iload 5, 2) := by decide +kernel
theorem dL_areGroups_292 : decode cL_areGroups 292 = .ok (.ireturn, 1) := by decide +kernel
theorem dL_isSo_0 : decode cL_isSo 0 = .ok (.aload_n 0, 1) := by decide +kernel
theorem dL_isSo_1 : decode cL_isSo 1 = .ok (.aload_n 1, 1) := by decide +kernel
theorem dL_isSo_2 : decode cL_isSo 2 = .ok (.aload_n 2, 1) := by decide +kernel
theorem dL_isSo_3 : decode cL_isSo 3 = .ok (.aload_n 3, 1) := by decide +kernel
theorem dL_isSo_4 : decode cL_isSo 4 = .ok (.invokestatic 85, 3) := by decide +kernel
theorem dL_isSo_7 : decode cL_isSo 7 = .ok (.ifCond .eq 41, 3) := by decide +kernel
theorem dL_isSo_10 : decode cL_isSo 10 = .ok (.aload_n 0, 1) := by decide +kernel
theorem dL_isSo_11 : decode cL_isSo 11 = .ok (.aload_n 1, 1) := by decide +kernel
theorem dL_isSo_12 : decode cL_isSo 12 = .ok (.aload_n 2, 1) := by decide +kernel
theorem dL_isSo_13 : decode cL_isSo 13 = .ok (.aload_n 3, 1) := by decide +kernel
theorem dL_isSo_14 : decode cL_isSo 14 = .ok (.aload 4, 2) := by decide +kernel
theorem dL_isSo_16 : decode cL_isSo 16 = .ok (.invokestatic 89, 3) := by decide +kernel
theorem dL_isSo_19 : decode cL_isSo 19 = .ok (.ifCond .eq 29, 3) := by decide +kernel
theorem dL_isSo_22 : decode cL_isSo 22 = .ok (.aload_n 0, 1) := by decide +kernel
theorem dL_isSo_23 : decode cL_isSo 23 = .ok (.iconst (-1), 1) := by decide +kernel
theorem dL_isSo_24 : decode cL_isSo 24 = .ok (.invokevirtual 93, 3) := by decide +kernel
theorem dL_isSo_27 : decode cL_isSo 27 = .ok (.ldc 41, 2) := by decide +kernel
theorem dL_isSo_29 : decode cL_isSo 29 = .ok (.if_icmp .ne 19, 3) := by decide +kernel
theorem dL_isSo_32 : decode cL_isSo 32 = .ok (.aload_n 0, 1) := by decide +kernel
theorem dL_isSo_33 : decode cL_isSo 33 = .ok (.aload_n 1, 1) := by decide +kernel
theorem dL_isSo_34 : decode cL_isSo 34 = .ok (.iconst 0, 1) := by decide +kernel
theorem dL_isSo_35 : decode cL_isSo 35 = .ok (.iaload, 1) := by decide +kernel
theorem dL_isSo_36 : decode cL_isSo 36 = .ok (.invokevirtual 93, 3) := by decide +kernel
theorem dL_isSo_39 : decode cL_isSo 39 = .ok (.ldc 78, 2) := by decide +kernel
theorem dL_isSo_41 : decode cL_isSo 41 = .ok (.if_icmp .ne 7, 3) := by decide +kernel
theorem dL_isSo_44 : decode cL_isSo 44 = .ok (.iconst 1, 1) := by decide +kernel
theorem dL_isSo_45 : decode cL_isSo 45 = .ok (.goto 4, 3) := by decide +kernel
theorem dL_isSo_48 : decode cL_isSo 48 = .ok (.iconst 0, 1) := by decide +kernel
theorem dL_isSo_49 : decode cL_isSo 49 = .ok (.istore 5, 2) := by decide +kernel
theorem dL_isSo_51 : decode cL_isSo 51 = .ok (.iconst 0, 1) := by decide +kernel
theorem dL_isSo_52 : decode cL_isSo 52 = .ok (.istore 6, 2) := by decide +kernel
theorem dL_isSo_54 : decode cL_isSo 54 = .ok (.iconst 0, 1) := by decide +kernel
theorem dL_isSo_55 : decode cL_isSo 55 = .ok (.istore 7, 2) := by decide +kernel
theorem dL_isSo_57 : decode cL_isSo 57 = .ok (.iload 7, 2) := by decide +kernel
theorem dL_isSo_59 : decode cL_isSo 59 = .ok (.aload_n 1, 1) := by decide +kernel
theorem dL_isSo_60 : decode cL_isSo 60 = .ok (.iconst 0, 1) := by decide +kernel
theorem dL_isSo_61 : decode cL_isSo 61 = .ok (.iaload, 1) := by decide +kernel
theorem dL_isSo_62 : decode cL_isSo 62 = .ok (.if_icmp .ge 87, 3) := by decide +kernel
theorem dL_isSo_65 : decode cL_isSo 65 = .ok (.iload 5, 2) := by decide +kernel
theorem dL_isSo_67 : decode cL_isSo 67 = .ok (.ifCond .eq 82, 3) := by decide +kernel
theorem dL_isSo_70 : decode cL_isSo 70 = .ok (.aload_n 0, 1) := by decide +kernel
theorem dL_isSo_71 : decode cL_isSo 71 = .ok (.iload 7, 2) := by decide +kernel
theorem dL_isSo_73 : decode cL_isSo 73 = .ok (.invokevirtual 93, 3) := by decide +kernel
theorem dL_isSo_76 : decode cL_isSo 76 = .ok (.istore 8, 2) := by decide +kernel
theorem dL_isSo_78 : decode cL_isSo 78 = .ok (.iload 8, 2) := by decide +kernel
theorem dL_isSo_80 : decode cL_isSo 80 = .ok (.ifCond .lt 34, 3) := by decide +kernel
theorem dL_isSo_83 : decode cL_isSo 83 = .ok (.iload 8, 2) := by decide +kernel
theorem dL_isSo_85 : decode cL_isSo 85 = .ok (.aload_n 1, 1) := by decide +kernel
theorem dL_isSo_86 : decode cL_isSo 86 = .ok (.iconst 0, 1) := by decide +kernel
theorem dL_isSo_87 : decode cL_isSo 87 = .ok (.iaload, 1) := by decide +kernel
theorem dL_isSo_88 : decode cL_isSo 88 = .ok (.if_icmp .ge 26, 3) := by decide +kernel
theorem dL_isSo_91 : decode cL_isSo 91 = .ok (.aload_n 2, 1) := by decide +kernel
theorem dL_isSo_92 : decode cL_isSo 92 = .ok (.iload 8, 2) := by decide +kernel
theorem dL_isSo_94 : decode cL_isSo 94 = .ok (.invokestatic 67, 3) := by decide +kernel
theorem dL_isSo_97 : decode cL_isSo 97 = .ok (.bipush 8, 2) := by decide +kernel
theorem dL_isSo_99 : decode cL_isSo 99 = .ok (.imul, 1) := by decide +kernel
theorem dL_isSo_100 : decode cL_isSo 100 = .ok (.iload 8, 2) := by decide +kernel
theorem dL_isSo_102 : decode cL_isSo 102 = .ok (.iadd, 1) := by decide +kernel
theorem dL_isSo_103 : decode cL_isSo 103 = .ok (.iload 6, 2) := by decide +kernel
theorem dL_isSo_105 : decode cL_isSo 105 = .ok (.iconst 1, 1) := by decide +kernel
theorem dL_isSo_106 : decode cL_isSo 106 = .ok (.isub, 1) := by decide +kernel
theorem dL_isSo_107 : decode cL_isSo 107 = .ok (.if_icmp .le 7, 3) := by decide +kernel
theorem dL_isSo_110 : decode cL_isSo 110 = .ok (.iconst 1, 1) := by decide +kernel
theorem dL_isSo_111 : decode cL_isSo 111 = .ok (.goto 4, 3) := by decide +kernel
theorem dL_isSo_114 : decode cL_isSo 114 = .ok (.iconst 0, 1) := by decide +kernel
theorem dL_isSo_115 : decode cL_isSo 115 = .ok (.istore 5, 2) := by decide +kernel
theorem dL_isSo_117 : decode cL_isSo 117 = .ok (.iload 5, 2) := by decide +kernel
theorem dL_isSo_119 : decode cL_isSo 119 = .ok (.ifCond .eq 20, 3) := by decide +kernel
theorem dL_isSo_122 : decode cL_isSo 122 = .ok (.aload_n 2, 1) := by decide +kernel
theorem dL_isSo_123 : decode cL_isSo 123 = .ok (.iload 8, 2) := by decide +kernel
theorem dL_isSo_125 : decode cL_isSo 125 = .ok (.invokestatic 67, 3) := by decide +kernel
theorem dL_isSo_128 : decode cL_isSo 128 = .ok (.bipush 8, 2) := by decide +kernel
theorem dL_isSo_130 : decode cL_isSo 130 = .ok (.imul, 1) := by decide +kernel
theorem dL_isSo_131 : decode cL_isSo 131 = .ok (.iload 8, 2) := by decide +kernel
theorem dL_isSo_133 : decode cL_isSo 133 = .ok (.iadd, 1) := by decide +kernel
theorem dL_isSo_134 : decode cL_isSo 134 = .ok (.iconst 1, 1) := by decide +kernel
theorem dL_isSo_135 : decode cL_isSo 135 = .ok (.iadd, 1) := by decide +kernel
theorem dL_isSo_136 : decode cL_isSo 136 = .ok (.goto 5, 3) := by decide +kernel
theorem dL_isSo_139 : decode cL_isSo 139 = .ok (.iload 6, 2) := by decide +kernel
theorem dL_isSo_141 : decode cL_isSo 141 = .ok (.istore 6, 2) := by decide +kernel
theorem dL_isSo_143 : decode cL_isSo 143 = .ok (.iinc 7 1, 3) := by decide +kernel
theorem dL_isSo_146 : decode cL_isSo 146 = .ok (.goto (-89), 3) := by decide +kernel
theorem dL_isSo_149 : decode cL_isSo 149 = .ok (.iconst 0, 1) := by decide +kernel
theorem dL_isSo_150 : decode cL_isSo 150 = .ok (.istore 7, 2) := by decide +kernel
theorem dL_isSo_152 : decode cL_isSo 152 = .ok (.iload 7, 2) := by decide +kernel
theorem dL_isSo_154 : decode cL_isSo 154 = .ok (.iconst 4, 1) := by decide +kernel
theorem dL_isSo_155 : decode cL_isSo 155 = .ok (.if_icmp .ge 34, 3) := by decide +kernel
theorem dL_isSo_158 : decode cL_isSo 158 = .ok (.iload 5, 2) := by decide +kernel
theorem dL_isSo_160 : decode cL_isSo 160 = .ok (.ifCond .eq 29, 3) := by decide +kernel
theorem dL_isSo_163 : decode cL_isSo 163 = .ok (.aload_n 0, 1) := by decide +kernel
theorem dL_isSo_164 : decode cL_isSo 164 = .ok (.iload 7, 2) := by decide +kernel
theorem dL_isSo_166 : decode cL_isSo 166 = .ok (.invokevirtual 79, 3) := by decide +kernel
theorem dL_isSo_169 : decode cL_isSo 169 = .ok (.aload_n 1, 1) := by decide +kernel
theorem dL_isSo_170 : decode cL_isSo 170 = .ok (.iload 7, 2) := by decide +kernel
theorem dL_isSo_172 : decode cL_isSo 172 = .ok (.iaload, 1) := by decide +kernel
theorem dL_isSo_173 : decode cL_isSo 173 = .ok (.if_icmp .ne 7, 3) := by decide +kernel
theorem dL_isSo_176 : decode cL_isSo 176 = .ok (.iconst 1, 1) := by decide +kernel
theorem dL_isSo_177 : decode cL_isSo 177 = .ok (.goto 4, 3) := by decide +kernel
theorem dL_isSo_180 : decode cL_isSo 180 = .ok (.iconst 0, 1) := by decide +kernel
theorem dL_isSo_181 : decode cL_isSo 181 = .ok (.istore 5, 2) := by decide +kernel
theorem dL_isSo_183 : decode cL_isSo 183 = .ok (.iinc 7 1, 3) := by decide +kernel
theorem dL_isSo_186 : decode cL_isSo 186 = .ok (.goto (-34), 3) := by decide +kernel
theorem dL_isSo_189 : decode cL_isSo 189 = .ok (.iload 5, 2) := by decide +kernel
theorem dL_isSo_191 : decode cL_isSo 191 = .ok (.ifCond .eq 16, 3) := by decide +kernel
theorem dL_isSo_194 : decode cL_isSo 194 = .ok (.aload_n 0, 1) := by decide +kernel
theorem dL_isSo_195 : decode cL_isSo 195 = .ok (.bipush 10, 2) := by decide +kernel
theorem dL_isSo_197 : decode cL_isSo 197 = .ok (.invokevirtual 79, 3) := by decide +kernel
theorem dL_isSo_200 : decode cL_isSo 200 = .ok (.ifCond .ne 7, 3) := by decide +kernel
theorem dL_isSo_203 : decode cL_isSo 203 = .ok (.iconst 1, 1) := by decide +kernel
theorem dL_isSo_204 : decode cL_isSo 204 = .ok (.goto 4, 3) := by decide +kernel
theorem dL_isSo_207 : decode cL_isSo 207 = .ok (.iconst 0, 1) := by decide +kernel
theorem dL_isSo_208 : decode cL_isSo 208 = .ok (.ireturn, 1) := by decide +kernel
theorem dL_law_0 : decode cL_law 0 = .ok (.new 28, 3) := by decide +kernel
theorem dL_law_3 : decode cL_law 3 = .ok (.dup, 1) := by decide +kernel
theorem dL_law_4 : decode cL_law 4 = .ok (.invokespecial 96, 3) := by decide +kernel
theorem dL_law_7 : decode cL_law 7 = .ok (.astore_n 1, 1) := by decide +kernel
theorem dL_law_8 : decode cL_law 8 = .ok (.iconst 4, 1) := by decide +kernel
theorem dL_law_9 : decode cL_law 9 = .ok (.newarray .int, 2) := by decide +kernel
theorem dL_law_11 : decode cL_law 11 = .ok (.astore_n 2, 1) := by decide +kernel
theorem dL_law_12 : decode cL_law 12 = .ok (.bipush 48, 2) := by decide +kernel
theorem dL_law_14 : decode cL_law 14 = .ok (.newarray .int, 2) := by decide +kernel
theorem dL_law_16 : decode cL_law 16 = .ok (.astore_n 3, 1) := by decide +kernel
theorem dL_law_17 : decode cL_law 17 = .ok (.bipush 42, 2) := by decide +kernel
theorem dL_law_19 : decode cL_law 19 = .ok (.newarray .int, 2) := by decide +kernel
theorem dL_law_21 : decode cL_law 21 = .ok (.astore 4, 2) := by decide +kernel
theorem dL_law_23 : decode cL_law 23 = .ok (.bipush 16, 2) := by decide +kernel
theorem dL_law_25 : decode cL_law 25 = .ok (.newarray .int, 2) := by decide +kernel
theorem dL_law_27 : decode cL_law 27 = .ok (.astore 5, 2) := by decide +kernel
theorem dL_law_29 : decode cL_law 29 = .ok (.aload_n 2, 1) := by decide +kernel
theorem dL_law_30 : decode cL_law 30 = .ok (.iconst 3, 1) := by decide +kernel
theorem dL_law_31 : decode cL_law 31 = .ok (.iconst 1, 1) := by decide +kernel
theorem dL_law_32 : decode cL_law 32 = .ok (.iastore, 1) := by decide +kernel
theorem dL_law_33 : decode cL_law 33 = .ok (.aload_n 1, 1) := by decide +kernel
theorem dL_law_34 : decode cL_law 34 = .ok (.iconst 0, 1) := by decide +kernel
theorem dL_law_35 : decode cL_law 35 = .ok (.invokevirtual 79, 3) := by decide +kernel
theorem dL_law_38 : decode cL_law 38 = .ok (.ifCond .ne 7, 3) := by decide +kernel
theorem dL_law_41 : decode cL_law 41 = .ok (.iconst 1, 1) := by decide +kernel
theorem dL_law_42 : decode cL_law 42 = .ok (.goto 4, 3) := by decide +kernel
theorem dL_law_45 : decode cL_law 45 = .ok (.iconst 0, 1) := by decide +kernel
theorem dL_law_46 : decode cL_law 46 = .ok (.istore 6, 2) := by decide +kernel
theorem dL_law_48 : decode cL_law 48 = .ok (.iconst 0, 1) := by decide +kernel
theorem dL_law_49 : decode cL_law 49 = .ok (.istore 7, 2) := by decide +kernel
theorem dL_law_51 : decode cL_law 51 = .ok (.iload 7, 2) := by decide +kernel
theorem dL_law_53 : decode cL_law 53 = .ok (.bipush 6, 2) := by decide +kernel
theorem dL_law_55 : decode cL_law 55 = .ok (.if_icmp .ge 69, 3) := by decide +kernel
theorem dL_law_58 : decode cL_law 58 = .ok (.iload 6, 2) := by decide +kernel
theorem dL_law_60 : decode cL_law 60 = .ok (.ifCond .eq 64, 3) := by decide +kernel
theorem dL_law_63 : decode cL_law 63 = .ok (.aload_n 1, 1) := by decide +kernel
theorem dL_law_64 : decode cL_law 64 = .ok (.aload_n 2, 1) := by decide +kernel
theorem dL_law_65 : decode cL_law 65 = .ok (.aload_n 3, 1) := by decide +kernel
theorem dL_law_66 : decode cL_law 66 = .ok (.aload 4, 2) := by decide +kernel
theorem dL_law_68 : decode cL_law 68 = .ok (.aload 5, 2) := by decide +kernel
theorem dL_law_70 : decode cL_law 70 = .ok (.aload_n 0, 1) := by decide +kernel
theorem dL_law_71 : decode cL_law 71 = .ok (.iconst 1, 1) := by decide +kernel
theorem dL_law_72 : decode cL_law 72 = .ok (.iload 7, 2) := by decide +kernel
theorem dL_law_74 : decode cL_law 74 = .ok (.iadd, 1) := by decide +kernel
theorem dL_law_75 : decode cL_law 75 = .ok (.invokestatic 97, 3) := by decide +kernel
theorem dL_law_78 : decode cL_law 78 = .ok (.ldc 8, 2) := by decide +kernel
theorem dL_law_80 : decode cL_law 80 = .ok (.iand, 1) := by decide +kernel
theorem dL_law_81 : decode cL_law 81 = .ok (.sipush 192, 3) := by decide +kernel
theorem dL_law_84 : decode cL_law 84 = .ok (.idiv, 1) := by decide +kernel
theorem dL_law_85 : decode cL_law 85 = .ok (.sipush 192, 3) := by decide +kernel
theorem dL_law_88 : decode cL_law 88 = .ok (.imul, 1) := by decide +kernel
theorem dL_law_89 : decode cL_law 89 = .ok (.iload 7, 2) := by decide +kernel
theorem dL_law_91 : decode cL_law 91 = .ok (.iconst 3, 1) := by decide +kernel
theorem dL_law_92 : decode cL_law 92 = .ok (.if_icmp .ge 7, 3) := by decide +kernel
theorem dL_law_95 : decode cL_law 95 = .ok (.iconst 0, 1) := by decide +kernel
theorem dL_law_96 : decode cL_law 96 = .ok (.goto 16, 3) := by decide +kernel
theorem dL_law_99 : decode cL_law 99 = .ok (.iload 7, 2) := by decide +kernel
theorem dL_law_101 : decode cL_law 101 = .ok (.iconst 3, 1) := by decide +kernel
theorem dL_law_102 : decode cL_law 102 = .ok (.if_icmp .ne 8, 3) := by decide +kernel
theorem dL_law_105 : decode cL_law 105 = .ok (.bipush 9, 2) := by decide +kernel
theorem dL_law_107 : decode cL_law 107 = .ok (.goto 5, 3) := by decide +kernel
theorem dL_law_110 : decode cL_law 110 = .ok (.bipush 13, 2) := by decide +kernel
theorem dL_law_112 : decode cL_law 112 = .ok (.iadd, 1) := by decide +kernel
theorem dL_law_113 : decode cL_law 113 = .ok (.invokestatic 100, 3) := by decide +kernel
theorem dL_law_116 : decode cL_law 116 = .ok (.istore 6, 2) := by decide +kernel
theorem dL_law_118 : decode cL_law 118 = .ok (.iinc 7 1, 3) := by decide +kernel
theorem dL_law_121 : decode cL_law 121 = .ok (.goto (-70), 3) := by decide +kernel
theorem dL_law_124 : decode cL_law 124 = .ok (.iload 6, 2) := by decide +kernel
theorem dL_law_126 : decode cL_law 126 = .ok (.ifCond .eq 20, 3) := by decide +kernel
theorem dL_law_129 : decode cL_law 129 = .ok (.aload_n 1, 1) := by decide +kernel
theorem dL_law_130 : decode cL_law 130 = .ok (.aload_n 2, 1) := by decide +kernel
theorem dL_law_131 : decode cL_law 131 = .ok (.aload_n 3, 1) := by decide +kernel
theorem dL_law_132 : decode cL_law 132 = .ok (.aload 4, 2) := by decide +kernel
theorem dL_law_134 : decode cL_law 134 = .ok (.aload 5, 2) := by decide +kernel
theorem dL_law_136 : decode cL_law 136 = .ok (.invokestatic 104, 3) := by decide +kernel
theorem dL_law_139 : decode cL_law 139 = .ok (.ifCond .eq 7, 3) := by decide +kernel
theorem dL_law_142 : decode cL_law 142 = .ok (.iconst 1, 1) := by decide +kernel
theorem dL_law_143 : decode cL_law 143 = .ok (.goto 4, 3) := by decide +kernel
theorem dL_law_146 : decode cL_law 146 = .ok (.iconst 0, 1) := by decide +kernel
theorem dL_law_147 : decode cL_law 147 = .ok (.istore 6, 2) := by decide +kernel
theorem dL_law_149 : decode cL_law 149 = .ok (.bipush 16, 2) := by decide +kernel
theorem dL_law_151 : decode cL_law 151 = .ok (.aload_n 0, 1) := by decide +kernel
theorem dL_law_152 : decode cL_law 152 = .ok (.iconst 0, 1) := by decide +kernel
theorem dL_law_153 : decode cL_law 153 = .ok (.invokestatic 97, 3) := by decide +kernel
theorem dL_law_156 : decode cL_law 156 = .ok (.bipush 60, 2) := by decide +kernel
theorem dL_law_158 : decode cL_law 158 = .ok (.invokestatic 47, 3) := by decide +kernel
theorem dL_law_161 : decode cL_law 161 = .ok (.iadd, 1) := by decide +kernel
theorem dL_law_162 : decode cL_law 162 = .ok (.istore 7, 2) := by decide +kernel
theorem dL_law_164 : decode cL_law 164 = .ok (.iconst 0, 1) := by decide +kernel
theorem dL_law_165 : decode cL_law 165 = .ok (.istore 8, 2) := by decide +kernel
theorem dL_law_167 : decode cL_law 167 = .ok (.iload 8, 2) := by decide +kernel
theorem dL_law_169 : decode cL_law 169 = .ok (.iload 7, 2) := by decide +kernel
theorem dL_law_171 : decode cL_law 171 = .ok (.if_icmp .ge 63, 3) := by decide +kernel
theorem dL_law_174 : decode cL_law 174 = .ok (.iload 6, 2) := by decide +kernel
theorem dL_law_176 : decode cL_law 176 = .ok (.ifCond .eq 58, 3) := by decide +kernel
theorem dL_law_179 : decode cL_law 179 = .ok (.aload_n 1, 1) := by decide +kernel
theorem dL_law_180 : decode cL_law 180 = .ok (.aload_n 2, 1) := by decide +kernel
theorem dL_law_181 : decode cL_law 181 = .ok (.aload_n 3, 1) := by decide +kernel
theorem dL_law_182 : decode cL_law 182 = .ok (.aload 4, 2) := by decide +kernel
theorem dL_law_184 : decode cL_law 184 = .ok (.aload 5, 2) := by decide +kernel
theorem dL_law_186 : decode cL_law 186 = .ok (.aload_n 0, 1) := by decide +kernel
theorem dL_law_187 : decode cL_law 187 = .ok (.bipush 7, 2) := by decide +kernel
theorem dL_law_189 : decode cL_law 189 = .ok (.iload 8, 2) := by decide +kernel
theorem dL_law_191 : decode cL_law 191 = .ok (.iadd, 1) := by decide +kernel
theorem dL_law_192 : decode cL_law 192 = .ok (.invokestatic 97, 3) := by decide +kernel
theorem dL_law_195 : decode cL_law 195 = .ok (.sipush 7919, 3) := by decide +kernel
theorem dL_law_198 : decode cL_law 198 = .ok (.iload 8, 2) := by decide +kernel
theorem dL_law_200 : decode cL_law 200 = .ok (.imul, 1) := by decide +kernel
theorem dL_law_201 : decode cL_law 201 = .ok (.ixor, 1) := by decide +kernel
theorem dL_law_202 : decode cL_law 202 = .ok (.invokestatic 100, 3) := by decide +kernel
theorem dL_law_205 : decode cL_law 205 = .ok (.ifCond .eq 20, 3) := by decide +kernel
theorem dL_law_208 : decode cL_law 208 = .ok (.aload_n 1, 1) := by decide +kernel
theorem dL_law_209 : decode cL_law 209 = .ok (.aload_n 2, 1) := by decide +kernel
theorem dL_law_210 : decode cL_law 210 = .ok (.aload_n 3, 1) := by decide +kernel
theorem dL_law_211 : decode cL_law 211 = .ok (.aload 4, 2) := by decide +kernel
theorem dL_law_213 : decode cL_law 213 = .ok (.aload 5, 2) := by decide +kernel
theorem dL_law_215 : decode cL_law 215 = .ok (.invokestatic 104, 3) := by decide +kernel
theorem dL_law_218 : decode cL_law 218 = .ok (.ifCond .eq 7, 3) := by decide +kernel
theorem dL_law_221 : decode cL_law 221 = .ok (.iconst 1, 1) := by decide +kernel
theorem dL_law_222 : decode cL_law 222 = .ok (.goto 4, 3) := by decide +kernel
theorem dL_law_225 : decode cL_law 225 = .ok (.iconst 0, 1) := by decide +kernel
theorem dL_law_226 : decode cL_law 226 = .ok (.istore 6, 2) := by decide +kernel
theorem dL_law_228 : decode cL_law 228 = .ok (.iinc 8 1, 3) := by decide +kernel
theorem dL_law_231 : decode cL_law 231 = .ok (.goto (-64), 3) := by decide +kernel
theorem dL_law_234 : decode cL_law 234 = .ok (.iload 6, 2) := by decide +kernel
theorem dL_law_236 : decode cL_law 236 = .ok (.ifCond .eq 28, 3) := by decide +kernel
theorem dL_law_239 : decode cL_law 239 = .ok (.aload_n 1, 1) := by decide +kernel
theorem dL_law_240 : decode cL_law 240 = .ok (.bipush 11, 2) := by decide +kernel
theorem dL_law_242 : decode cL_law 242 = .ok (.invokevirtual 79, 3) := by decide +kernel
theorem dL_law_245 : decode cL_law 245 = .ok (.ldc 41, 2) := by decide +kernel
theorem dL_law_247 : decode cL_law 247 = .ok (.if_icmp .ne 17, 3) := by decide +kernel
theorem dL_law_250 : decode cL_law 250 = .ok (.aload_n 1, 1) := by decide +kernel
theorem dL_law_251 : decode cL_law 251 = .ok (.iconst (-1), 1) := by decide +kernel
theorem dL_law_252 : decode cL_law 252 = .ok (.invokevirtual 79, 3) := by decide +kernel
theorem dL_law_255 : decode cL_law 255 = .ok (.ldc 41, 2) := by decide +kernel
theorem dL_law_257 : decode cL_law 257 = .ok (.if_icmp .ne 7, 3) := by decide +kernel
theorem dL_law_260 : decode cL_law 260 = .ok (.iconst 1, 1) := by decide +kernel
theorem dL_law_261 : decode cL_law 261 = .ok (.goto 4, 3) := by decide +kernel
theorem dL_law_264 : decode cL_law 264 = .ok (.iconst 0, 1) := by decide +kernel
theorem dL_law_265 : decode cL_law 265 = .ok (.ireturn, 1) := by decide +kernel
abbrev vwCl : List vw_C := [(RX0, TX0, 10), (RX1, TX1, 5), (RX2, TX2, 4), (RX3, TX3, 6), (RX4, TX4, 2), (RX5, TX5, 7), (RX6, TX6, 2), (RX7, TX7, 5)]
