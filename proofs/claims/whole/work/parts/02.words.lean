/-! the tables' words by their places: of all that keep (lw_ws), and those between nest mates (nestW) -/
def lw_ws : List Cond := lw_tbl.filter goodWord
theorem ws_mem {w : Cond} (i : Nat) (h : lw_tbl[i]? = some w) (hg : goodWord w = true) : w ∈ lw_ws := List.mem_filter.mpr ⟨List.mem_of_getElem? h, hg⟩
def nestW : List Cond := [Cond.methodLinkNest RX3 27 yX0_init "RenewalClocks", Cond.methodLinkNest RX0 17 yX1_init "RenewalClocks", Cond.fieldLinkNest RX0 67 RX1 "many" "I" "RenewalClocks", Cond.fieldLinkNest RX3 75 RX1 "many" "I" "RenewalClocks", Cond.fieldLinkNest RX7 102 RX1 "many" "I" "RenewalClocks", Cond.fieldLinkNest RX0 74 RX1 "sum" "I" "RenewalClocks", Cond.fieldLinkNest RX0 78 RX1 "longest" "I" "RenewalClocks", Cond.fieldLinkNest RX3 68 RX0 "law" "I" "RenewalClocks", Cond.fieldLinkNest RX3 65 RX0 "gap" "I" "RenewalClocks", Cond.fieldLinkNest RX7 147 RX0 "gap" "I" "RenewalClocks", Cond.fieldLinkNest RX3 113 RX0 "rest" "I" "RenewalClocks", Cond.fieldLinkNest RX7 144 RX0 "rest" "I" "RenewalClocks", Cond.fieldLinkNest RX3 107 RX0 "passengers" "I" "RenewalClocks", Cond.fieldLinkNest RX3 110 RX0 "waited" "I" "RenewalClocks", Cond.fieldLinkNest RX3 62 RX0 "wound" "I" "RenewalClocks", Cond.fieldLinkNest RX7 99 RX0 "told" "LRenewalClocks$Gaps;" "RenewalClocks", Cond.fieldLinkNest RX3 71 RX0 "round" "LRenewalClocks$Gaps;" "RenewalClocks", Cond.fieldLinkNest RX7 85 RX0 "round" "LRenewalClocks$Gaps;" "RenewalClocks", Cond.methodLinkNest RX3 28 yX2_init "RenewalClocks", Cond.fieldLinkNest RX7 112 RX2 "law" "I" "RenewalClocks", Cond.fieldLinkNest RX3 126 RX2 "law" "I" "RenewalClocks", Cond.fieldLinkNest RX7 117 RX2 "members" "I" "RenewalClocks", Cond.fieldLinkNest RX3 134 RX2 "members" "I" "RenewalClocks", Cond.fieldLinkNest RX7 123 RX2 "told" "I" "RenewalClocks", Cond.fieldLinkNest RX7 125 RX2 "met" "I" "RenewalClocks", Cond.fieldLinkNest RX7 155 RX3 "clockCount" "I" "RenewalClocks", Cond.fieldLinkNest RX7 158 RX3 "groupCount" "I" "RenewalClocks", Cond.fieldLinkNest RX7 161 RX3 "now" "I" "RenewalClocks", Cond.fieldLinkNest RX7 164 RX3 "drawn" "I" "RenewalClocks", Cond.fieldLinkNest RX7 173 RX4 "kept" "I" "RenewalClocks", Cond.methodLinkNest RX7 28 yX6_init "RenewalClocks", Cond.fieldLinkNest RX5 35 RX6 "length" "I" "RenewalClocks", Cond.fieldLinkNest RX7 176 RX6 "length" "I" "RenewalClocks", Cond.fieldLinkNest RX7 196 RX5 "start" "I" "RenewalClocks", Cond.fieldLinkNest RX7 202 RX5 "many" "I" "RenewalClocks", Cond.fieldLinkNest RX7 193 RX5 "reason" "I" "RenewalClocks", Cond.fieldLinkNest RX7 199 RX5 "cause" "I" "RenewalClocks", Cond.methodLinkNest RX3 45 yX7_isClock "RenewalClocks", Cond.methodLinkNest RX3 116 yX7_isLaw "RenewalClocks"]
theorem nestW_tbl : nestW = [72, 78, 83, 84, 85, 87, 91, 105, 109, 110, 112, 113, 115, 117, 119, 121, 123, 124, 147, 152, 153, 155, 156, 158, 160, 172, 175, 177, 179, 204, 212, 218, 219, 235, 238, 240, 242, 305, 415].filterMap (fun i => lw_tbl[i]?) := by decide +kernel
theorem uin_X0 : ∀ w ∈ u_ws RX0 TX0 10, w ∈ lw_ws := by
  have h1 : u_ws RX0 TX0 10 = [125, 127, 129, 131, 133, 135, 137, 139, 141, 143].filterMap (fun i => lw_tbl[i]?) := by decide +kernel
  have h2 : (u_ws RX0 TX0 10).all goodWord = true := by decide +kernel
  intro w hw
  refine List.mem_filter.mpr ⟨?_, List.all_eq_true.mp h2 w hw⟩
  rw [h1] at hw
  obtain ⟨i, -, hi⟩ := List.mem_filterMap.mp hw
  exact List.mem_of_getElem? hi
theorem uin_X1 : ∀ w ∈ u_ws RX1 TX1 5, w ∈ lw_ws := by
  have h1 : u_ws RX1 TX1 5 = [92, 94, 96, 98, 100].filterMap (fun i => lw_tbl[i]?) := by decide +kernel
  have h2 : (u_ws RX1 TX1 5).all goodWord = true := by decide +kernel
  intro w hw
  refine List.mem_filter.mpr ⟨?_, List.all_eq_true.mp h2 w hw⟩
  rw [h1] at hw
  obtain ⟨i, -, hi⟩ := List.mem_filterMap.mp hw
  exact List.mem_of_getElem? hi
theorem uin_X2 : ∀ w ∈ u_ws RX2 TX2 4, w ∈ lw_ws := by
  have h1 : u_ws RX2 TX2 4 = [161, 163, 165, 167].filterMap (fun i => lw_tbl[i]?) := by decide +kernel
  have h2 : (u_ws RX2 TX2 4).all goodWord = true := by decide +kernel
  intro w hw
  refine List.mem_filter.mpr ⟨?_, List.all_eq_true.mp h2 w hw⟩
  rw [h1] at hw
  obtain ⟨i, -, hi⟩ := List.mem_filterMap.mp hw
  exact List.mem_of_getElem? hi
theorem uin_X3 : ∀ w ∈ u_ws RX3 TX3 6, w ∈ lw_ws := by
  have h1 : u_ws RX3 TX3 6 = [180, 182, 184, 186, 188, 190].filterMap (fun i => lw_tbl[i]?) := by decide +kernel
  have h2 : (u_ws RX3 TX3 6).all goodWord = true := by decide +kernel
  intro w hw
  refine List.mem_filter.mpr ⟨?_, List.all_eq_true.mp h2 w hw⟩
  rw [h1] at hw
  obtain ⟨i, -, hi⟩ := List.mem_filterMap.mp hw
  exact List.mem_of_getElem? hi
theorem uin_X4 : ∀ w ∈ u_ws RX4 TX4 2, w ∈ lw_ws := by
  have h1 : u_ws RX4 TX4 2 = [205, 207].filterMap (fun i => lw_tbl[i]?) := by decide +kernel
  have h2 : (u_ws RX4 TX4 2).all goodWord = true := by decide +kernel
  intro w hw
  refine List.mem_filter.mpr ⟨?_, List.all_eq_true.mp h2 w hw⟩
  rw [h1] at hw
  obtain ⟨i, -, hi⟩ := List.mem_filterMap.mp hw
  exact List.mem_of_getElem? hi
theorem uin_X5 : ∀ w ∈ u_ws RX5 TX5 7, w ∈ lw_ws := by
  have h1 : u_ws RX5 TX5 7 = [243, 245, 247, 249, 251, 253, 255].filterMap (fun i => lw_tbl[i]?) := by decide +kernel
  have h2 : (u_ws RX5 TX5 7).all goodWord = true := by decide +kernel
  intro w hw
  refine List.mem_filter.mpr ⟨?_, List.all_eq_true.mp h2 w hw⟩
  rw [h1] at hw
  obtain ⟨i, -, hi⟩ := List.mem_filterMap.mp hw
  exact List.mem_of_getElem? hi
theorem uin_X6 : ∀ w ∈ u_ws RX6 TX6 2, w ∈ lw_ws := by
  have h1 : u_ws RX6 TX6 2 = [220, 222].filterMap (fun i => lw_tbl[i]?) := by decide +kernel
  have h2 : (u_ws RX6 TX6 2).all goodWord = true := by decide +kernel
  intro w hw
  refine List.mem_filter.mpr ⟨?_, List.all_eq_true.mp h2 w hw⟩
  rw [h1] at hw
  obtain ⟨i, -, hi⟩ := List.mem_filterMap.mp hw
  exact List.mem_of_getElem? hi
theorem uin_X7 : ∀ w ∈ u_ws RX7 TX7 5, w ∈ lw_ws := by
  have h1 : u_ws RX7 TX7 5 = [263, 265, 267, 269, 271].filterMap (fun i => lw_tbl[i]?) := by decide +kernel
  have h2 : (u_ws RX7 TX7 5).all goodWord = true := by decide +kernel
  intro w hw
  refine List.mem_filter.mpr ⟨?_, List.all_eq_true.mp h2 w hw⟩
  rw [h1] at hw
  obtain ⟨i, -, hi⟩ := List.mem_filterMap.mp hw
  exact List.mem_of_getElem? hi
theorem uin_X8 : ∀ w ∈ u_ws RX8 TX8 15, w ∈ lw_ws := by
  have h1 : u_ws RX8 TX8 15 = [631, 633, 635, 637, 639, 641, 643, 645, 647, 649, 651, 653, 655, 657, 659].filterMap (fun i => lw_tbl[i]?) := by decide +kernel
  have h2 : (u_ws RX8 TX8 15).all goodWord = true := by decide +kernel
  intro w hw
  refine List.mem_filter.mpr ⟨?_, List.all_eq_true.mp h2 w hw⟩
  rw [h1] at hw
  obtain ⟨i, -, hi⟩ := List.mem_filterMap.mp hw
  exact List.mem_of_getElem? hi
theorem wc_X7_init : Cond.code yX7_init cX7_init 1 none ∈ lw_ws := ws_mem 57 (by decide +kernel) rfl
theorem wc_objInit : Cond.code objectInit ⟨#[0xb1]⟩ 1 none ∈ lw_ws := ws_mem 60 (by decide +kernel) rfl
theorem wc_X3_init : Cond.code yX3_init cX3_init 2 none ∈ lw_ws := ws_mem 65 (by decide +kernel) rfl
theorem wc_X0_init : Cond.code yX0_init cX0_init 1 none ∈ lw_ws := ws_mem 74 (by decide +kernel) rfl
theorem wc_X1_init : Cond.code yX1_init cX1_init 1 none ∈ lw_ws := ws_mem 80 (by decide +kernel) rfl
theorem wc_X2_init : Cond.code yX2_init cX2_init 1 none ∈ lw_ws := ws_mem 149 (by decide +kernel) rfl
theorem wc_X4_init : Cond.code yX4_init cX4_init 2 none ∈ lw_ws := ws_mem 197 (by decide +kernel) rfl
theorem wc_X6_init : Cond.code yX6_init cX6_init 1 none ∈ lw_ws := ws_mem 214 (by decide +kernel) rfl
theorem wc_X5_init : Cond.code yX5_init cX5_init 2 none ∈ lw_ws := ws_mem 230 (by decide +kernel) rfl
theorem wc_X7_clock : Cond.code yX7_clock cX7_clock 6 (some .int) ∈ lw_ws := ws_mem 277 (by decide +kernel) rfl
theorem wc_X4_note : Cond.code yX4_note cX4_note 2 none ∈ lw_ws := ws_mem 281 (by decide +kernel) rfl
theorem wc_X3_copyFrom : Cond.code yX3_copyFrom cX3_copyFrom 3 none ∈ lw_ws := ws_mem 285 (by decide +kernel) rfl
theorem wc_X0_copyFrom : Cond.code yX0_copyFrom cX0_copyFrom 2 none ∈ lw_ws := ws_mem 289 (by decide +kernel) rfl
theorem wc_X1_copyFrom : Cond.code yX1_copyFrom cX1_copyFrom 2 none ∈ lw_ws := ws_mem 296 (by decide +kernel) rfl
theorem wc_X2_copyFrom : Cond.code yX2_copyFrom cX2_copyFrom 2 none ∈ lw_ws := ws_mem 300 (by decide +kernel) rfl
theorem wc_X3_addClock : Cond.code yX3_addClock cX3_addClock 7 (some .int) ∈ lw_ws := ws_mem 304 (by decide +kernel) rfl
theorem wc_X7_isClock : Cond.code yX7_isClock cX7_isClock 5 (some .boolean) ∈ lw_ws := ws_mem 307 (by decide +kernel) rfl
theorem wc_X7_isLaw : Cond.code yX7_isLaw cX7_isLaw 1 (some .boolean) ∈ lw_ws := ws_mem 310 (by decide +kernel) rfl
theorem wc_X7_isGap : Cond.code yX7_isGap cX7_isGap 1 (some .boolean) ∈ lw_ws := ws_mem 313 (by decide +kernel) rfl
theorem wc_X7_mayFollow : Cond.code yX7_mayFollow cX7_mayFollow 2 (some .boolean) ∈ lw_ws := ws_mem 316 (by decide +kernel) rfl
theorem wc_X0_set : Cond.code yX0_set cX0_set 6 none ∈ lw_ws := ws_mem 322 (by decide +kernel) rfl
theorem wc_X1_empty : Cond.code yX1_empty cX1_empty 1 none ∈ lw_ws := ws_mem 326 (by decide +kernel) rfl
theorem wc_X0_fillRound : Cond.code yX0_fillRound cX0_fillRound 2 none ∈ lw_ws := ws_mem 330 (by decide +kernel) rfl
theorem wc_X1_add : Cond.code yX1_add cX1_add 3 none ∈ lw_ws := ws_mem 334 (by decide +kernel) rfl
theorem wc_X3_beginGap : Cond.code yX3_beginGap cX3_beginGap 2 none ∈ lw_ws := ws_mem 338 (by decide +kernel) rfl
theorem wc_X3_draw : Cond.code yX3_draw cX3_draw 2 (some .int) ∈ lw_ws := ws_mem 342 (by decide +kernel) rfl
theorem wc_X0_placeInTurn : Cond.code yX0_placeInTurn cX0_placeInTurn 1 (some .int) ∈ lw_ws := ws_mem 346 (by decide +kernel) rfl
theorem wc_X0_beginAt : Cond.code yX0_beginAt cX0_beginAt 2 none ∈ lw_ws := ws_mem 350 (by decide +kernel) rfl
theorem wc_X7_settle : Cond.code yX7_settle cX7_settle 2 (some .int) ∈ lw_ws := ws_mem 354 (by decide +kernel) rfl
theorem wc_X4_keep : Cond.code yX4_keep cX4_keep 3 none ∈ lw_ws := ws_mem 358 (by decide +kernel) rfl
theorem wc_X7_wind : Cond.code yX7_wind cX7_wind 2 (some .int) ∈ lw_ws := ws_mem 362 (by decide +kernel) rfl
theorem wc_X3_windClock : Cond.code yX3_windClock cX3_windClock 3 (some .int) ∈ lw_ws := ws_mem 366 (by decide +kernel) rfl
theorem wc_X3_clockAt : Cond.code yX3_clockAt cX3_clockAt 2 (some (.object "RenewalClocks$Clock")) ∈ lw_ws := ws_mem 370 (by decide +kernel) rfl
theorem wc_X7_tick : Cond.code yX7_tick cX7_tick 2 (some .int) ∈ lw_ws := ws_mem 374 (by decide +kernel) rfl
theorem wc_X3_endTicks : Cond.code yX3_endTicks cX3_endTicks 4 (some .int) ∈ lw_ws := ws_mem 378 (by decide +kernel) rfl
theorem wc_X3_endTick : Cond.code yX3_endTick cX3_endTick 3 (some .int) ∈ lw_ws := ws_mem 383 (by decide +kernel) rfl
theorem wc_X0_passTick : Cond.code yX0_passTick cX0_passTick 1 (some .boolean) ∈ lw_ws := ws_mem 387 (by decide +kernel) rfl
theorem wc_X2_passTick : Cond.code yX2_passTick cX2_passTick 3 none ∈ lw_ws := ws_mem 391 (by decide +kernel) rfl
theorem wc_J6_bitCount_0f7a4 : Cond.code yJ6_bitCount_0f7a4 cJ6_bitCount_0f7a4 1 (some .int) ∈ lw_ws := ws_mem 394 (by decide +kernel) rfl
theorem wc_X7_passenger : Cond.code yX7_passenger cX7_passenger 2 (some .int) ∈ lw_ws := ws_mem 402 (by decide +kernel) rfl
theorem wc_X3_addPassenger : Cond.code yX3_addPassenger cX3_addPassenger 3 (some .int) ∈ lw_ws := ws_mem 406 (by decide +kernel) rfl
theorem wc_X7_group : Cond.code yX7_group cX7_group 2 (some .int) ∈ lw_ws := ws_mem 410 (by decide +kernel) rfl
theorem wc_X3_addGroup : Cond.code yX3_addGroup cX3_addGroup 2 (some .int) ∈ lw_ws := ws_mem 414 (by decide +kernel) rfl
theorem wc_X2_set : Cond.code yX2_set cX2_set 2 none ∈ lw_ws := ws_mem 419 (by decide +kernel) rfl
theorem wc_X7_join : Cond.code yX7_join cX7_join 3 (some .int) ∈ lw_ws := ws_mem 423 (by decide +kernel) rfl
theorem wc_X3_joinGroup : Cond.code yX3_joinGroup cX3_joinGroup 5 (some .int) ∈ lw_ws := ws_mem 427 (by decide +kernel) rfl
theorem wc_X3_groupAt : Cond.code yX3_groupAt cX3_groupAt 2 (some (.object "RenewalClocks$Group")) ∈ lw_ws := ws_mem 431 (by decide +kernel) rfl
theorem wc_X2_has : Cond.code yX2_has cX2_has 2 (some .boolean) ∈ lw_ws := ws_mem 435 (by decide +kernel) rfl
theorem wc_X2_size : Cond.code yX2_size cX2_size 1 (some .int) ∈ lw_ws := ws_mem 440 (by decide +kernel) rfl
theorem wc_X7_leave : Cond.code yX7_leave cX7_leave 3 (some .int) ∈ lw_ws := ws_mem 444 (by decide +kernel) rfl
theorem wc_X3_leaveGroup : Cond.code yX3_leaveGroup cX3_leaveGroup 4 (some .int) ∈ lw_ws := ws_mem 448 (by decide +kernel) rfl
theorem wc_X7_clockOf : Cond.code yX7_clockOf cX7_clockOf 4 (some .int) ∈ lw_ws := ws_mem 452 (by decide +kernel) rfl
theorem wc_X0_tell : Cond.code yX0_tell cX0_tell 2 (some .int) ∈ lw_ws := ws_mem 458 (by decide +kernel) rfl
theorem wc_X0_age : Cond.code yX0_age cX0_age 1 (some .int) ∈ lw_ws := ws_mem 462 (by decide +kernel) rfl
theorem wc_X7_mean : Cond.code yX7_mean cX7_mean 4 (some .long) ∈ lw_ws := ws_mem 467 (by decide +kernel) rfl
theorem wc_X1_meanOf : Cond.code yX1_meanOf cX1_meanOf 2 (some .double) ∈ lw_ws := ws_mem 472 (by decide +kernel) rfl
theorem wc_X7_bitsOf : Cond.code yX7_bitsOf cX7_bitsOf 9 (some .long) ∈ lw_ws := ws_mem 475 (by decide +kernel) rfl
theorem wc_X7_groupOf : Cond.code yX7_groupOf cX7_groupOf 4 (some .int) ∈ lw_ws := ws_mem 483 (by decide +kernel) rfl
theorem wc_X3_leastRest : Cond.code yX3_leastRest cX3_leastRest 5 (some .int) ∈ lw_ws := ws_mem 488 (by decide +kernel) rfl
theorem wc_X3_sumOver : Cond.code yX3_sumOver cX3_sumOver 5 (some .int) ∈ lw_ws := ws_mem 493 (by decide +kernel) rfl
theorem wc_X7_next : Cond.code yX7_next cX7_next 2 (some .int) ∈ lw_ws := ws_mem 498 (by decide +kernel) rfl
theorem wc_X3_clockInPlace : Cond.code yX3_clockInPlace cX3_clockInPlace 3 (some .int) ∈ lw_ws := ws_mem 502 (by decide +kernel) rfl
theorem wc_X3_clocksAhead : Cond.code yX3_clocksAhead cX3_clocksAhead 6 (some .int) ∈ lw_ws := ws_mem 506 (by decide +kernel) rfl
theorem wc_X7_would : Cond.code yX7_would cX7_would 7 (some .int) ∈ lw_ws := ws_mem 510 (by decide +kernel) rfl
theorem wc_X7_meets : Cond.code yX7_meets cX7_meets 5 (some .int) ∈ lw_ws := ws_mem 517 (by decide +kernel) rfl
theorem wc_X7_longer : Cond.code yX7_longer cX7_longer 1 (some .long) ∈ lw_ws := ws_mem 522 (by decide +kernel) rfl
theorem wc_X3_waitDueToAll : Cond.code yX3_waitDueToAll cX3_waitDueToAll 4 (some .double) ∈ lw_ws := ws_mem 526 (by decide +kernel) rfl
theorem wc_X7_count : Cond.code yX7_count cX7_count 2 (some .int) ∈ lw_ws := ws_mem 531 (by decide +kernel) rfl
theorem wc_X3_aboutToTell : Cond.code yX3_aboutToTell cX3_aboutToTell 3 (some .int) ∈ lw_ws := ws_mem 535 (by decide +kernel) rfl
theorem wc_X3_greatestAge : Cond.code yX3_greatestAge cX3_greatestAge 3 (some .int) ∈ lw_ws := ws_mem 539 (by decide +kernel) rfl
theorem wc_J9_max_7cf53 : Cond.code yJ9_max_7cf53 cJ9_max_7cf53 2 (some .int) ∈ lw_ws := ws_mem 543 (by decide +kernel) rfl
theorem wc_X7_undo : Cond.code yX7_undo cX7_undo 1 (some .int) ∈ lw_ws := ws_mem 547 (by decide +kernel) rfl
theorem wc_X4_restore : Cond.code yX4_restore cX4_restore 2 (some .boolean) ∈ lw_ws := ws_mem 551 (by decide +kernel) rfl
theorem wc_X7_type : Cond.code yX7_type cX7_type 2 (some .int) ∈ lw_ws := ws_mem 556 (by decide +kernel) rfl
theorem wc_X6_append : Cond.code yX6_append cX6_append 2 (some .boolean) ∈ lw_ws := ws_mem 560 (by decide +kernel) rfl
theorem wc_X7_clearText : Cond.code yX7_clearText cX7_clearText 2 (some .int) ∈ lw_ws := ws_mem 565 (by decide +kernel) rfl
theorem wc_X7_fault : Cond.code yX7_fault cX7_fault 2 (some .int) ∈ lw_ws := ws_mem 569 (by decide +kernel) rfl
theorem wc_X5_tryOut : Cond.code yX5_tryOut cX5_tryOut 5 none ∈ lw_ws := ws_mem 573 (by decide +kernel) rfl
theorem wc_X5_readOrder : Cond.code yX5_readOrder cX5_readOrder 4 (some .boolean) ∈ lw_ws := ws_mem 578 (by decide +kernel) rfl
theorem wc_X6_signAt : Cond.code yX6_signAt cX6_signAt 2 (some .char) ∈ lw_ws := ws_mem 582 (by decide +kernel) rfl
theorem wc_X5_numbersBehind : Cond.code yX5_numbersBehind cX5_numbersBehind 1 (some .int) ∈ lw_ws := ws_mem 585 (by decide +kernel) rfl
theorem wc_X5_readNumber : Cond.code yX5_readNumber cX5_readNumber 4 (some .boolean) ∈ lw_ws := ws_mem 589 (by decide +kernel) rfl
theorem wc_X5_isDigit : Cond.code yX5_isDigit cX5_isDigit 1 (some .boolean) ∈ lw_ws := ws_mem 592 (by decide +kernel) rfl
theorem wc_X5_setFault : Cond.code yX5_setFault cX5_setFault 3 none ∈ lw_ws := ws_mem 596 (by decide +kernel) rfl
theorem wc_X5_obey : Cond.code yX5_obey cX5_obey 2 (some .int) ∈ lw_ws := ws_mem 600 (by decide +kernel) rfl
theorem wc_X7_play : Cond.code yX7_play cX7_play 1 (some .int) ∈ lw_ws := ws_mem 609 (by decide +kernel) rfl
theorem wc_X8_init : Cond.code yX8_init cX8_init 1 none ∈ lw_ws := ws_mem 614 (by decide +kernel) rfl
theorem wc_X8_clock : Cond.code yX8_clock cX8_clock 8 (some .int) ∈ lw_ws := ws_mem 665 (by decide +kernel) rfl
theorem wc_X8_isLaw : Cond.code yX8_isLaw cX8_isLaw 6 (some .boolean) ∈ lw_ws := ws_mem 668 (by decide +kernel) rfl
theorem wc_X8_in : Cond.code yX8_in cX8_in 3 (some .boolean) ∈ lw_ws := ws_mem 671 (by decide +kernel) rfl
theorem wc_X8_changes : Cond.code yX8_changes cX8_changes 2 none ∈ lw_ws := ws_mem 677 (by decide +kernel) rfl
theorem wc_X8_sets : Cond.code yX8_sets cX8_sets 4 none ∈ lw_ws := ws_mem 681 (by decide +kernel) rfl
theorem wc_X8_begins : Cond.code yX8_begins cX8_begins 4 none ∈ lw_ws := ws_mem 685 (by decide +kernel) rfl
theorem wc_X8_of : Cond.code yX8_of cX8_of 3 (some .int) ∈ lw_ws := ws_mem 689 (by decide +kernel) rfl
theorem wc_X8_places : Cond.code yX8_places cX8_places 4 (some .int) ∈ lw_ws := ws_mem 693 (by decide +kernel) rfl
theorem wc_X8_draw : Cond.code yX8_draw cX8_draw 2 (some .int) ∈ lw_ws := ws_mem 697 (by decide +kernel) rfl
theorem wc_X8_gapAt : Cond.code yX8_gapAt cX8_gapAt 3 (some .int) ∈ lw_ws := ws_mem 701 (by decide +kernel) rfl
theorem wc_X8_wind : Cond.code yX8_wind cX8_wind 2 (some .int) ∈ lw_ws := ws_mem 705 (by decide +kernel) rfl
theorem wc_X8_isClock : Cond.code yX8_isClock cX8_isClock 2 (some .boolean) ∈ lw_ws := ws_mem 709 (by decide +kernel) rfl
theorem wc_X8_adds : Cond.code yX8_adds cX8_adds 4 none ∈ lw_ws := ws_mem 713 (by decide +kernel) rfl
theorem wc_X8_tick : Cond.code yX8_tick cX8_tick 2 (some .int) ∈ lw_ws := ws_mem 717 (by decide +kernel) rfl
theorem wc_X8_endsFor : Cond.code yX8_endsFor cX8_endsFor 4 (some .int) ∈ lw_ws := ws_mem 722 (by decide +kernel) rfl
theorem wc_X8_sum : Cond.code yX8_sum cX8_sum 4 (some .int) ∈ lw_ws := ws_mem 726 (by decide +kernel) rfl
theorem wc_X8_ends : Cond.code yX8_ends cX8_ends 4 none ∈ lw_ws := ws_mem 730 (by decide +kernel) rfl
theorem wc_X8_rest : Cond.code yX8_rest cX8_rest 2 (some .int) ∈ lw_ws := ws_mem 734 (by decide +kernel) rfl
theorem wc_X8_tells : Cond.code yX8_tells cX8_tells 3 none ∈ lw_ws := ws_mem 738 (by decide +kernel) rfl
theorem wc_X8_ofGroup : Cond.code yX8_ofGroup cX8_ofGroup 3 (some .int) ∈ lw_ws := ws_mem 742 (by decide +kernel) rfl
theorem wc_X8_ones : Cond.code yX8_ones cX8_ones 4 (some .int) ∈ lw_ws := ws_mem 746 (by decide +kernel) rfl
theorem wc_X8_passenger : Cond.code yX8_passenger cX8_passenger 2 (some .int) ∈ lw_ws := ws_mem 750 (by decide +kernel) rfl
theorem wc_X8_group : Cond.code yX8_group cX8_group 4 (some .int) ∈ lw_ws := ws_mem 754 (by decide +kernel) rfl
theorem wc_X8_join : Cond.code yX8_join cX8_join 4 (some .int) ∈ lw_ws := ws_mem 758 (by decide +kernel) rfl
theorem wc_X8_isGroup : Cond.code yX8_isGroup cX8_isGroup 2 (some .boolean) ∈ lw_ws := ws_mem 762 (by decide +kernel) rfl
theorem wc_X8_isIn : Cond.code yX8_isIn cX8_isIn 3 (some .boolean) ∈ lw_ws := ws_mem 766 (by decide +kernel) rfl
theorem wc_X8_leave : Cond.code yX8_leave cX8_leave 3 (some .int) ∈ lw_ws := ws_mem 771 (by decide +kernel) rfl
theorem wc_X8_clockOf : Cond.code yX8_clockOf cX8_clockOf 3 (some .int) ∈ lw_ws := ws_mem 775 (by decide +kernel) rfl
theorem wc_X8_mean : Cond.code yX8_mean cX8_mean 3 (some .long) ∈ lw_ws := ws_mem 780 (by decide +kernel) rfl
theorem wc_X8_lawMean : Cond.code yX8_lawMean cX8_lawMean 3 (some .double) ∈ lw_ws := ws_mem 785 (by decide +kernel) rfl
theorem wc_X8_ofLaw : Cond.code yX8_ofLaw cX8_ofLaw 6 (some .int) ∈ lw_ws := ws_mem 789 (by decide +kernel) rfl
theorem wc_X8_meanOf : Cond.code yX8_meanOf cX8_meanOf 4 (some .double) ∈ lw_ws := ws_mem 792 (by decide +kernel) rfl
theorem wc_Jxe99ae_doubleToLongBits_ccdee : Cond.code yJxe99ae_doubleToLongBits_ccdee cJxe99ae_doubleToLongBits_ccdee 2 (some .long) ∈ lw_ws := ws_mem 795 (by decide +kernel) rfl
theorem wc_Jxe99ae_isNaN_b9ae7 : Cond.code yJxe99ae_isNaN_b9ae7 cJxe99ae_isNaN_b9ae7 2 (some .boolean) ∈ lw_ws := ws_mem 798 (by decide +kernel) rfl
theorem wc_X8_groupOf : Cond.code yX8_groupOf cX8_groupOf 3 (some .int) ∈ lw_ws := ws_mem 807 (by decide +kernel) rfl
theorem wc_X8_leastRest : Cond.code yX8_leastRest cX8_leastRest 4 (some .int) ∈ lw_ws := ws_mem 811 (by decide +kernel) rfl
theorem wc_X8_sumIn : Cond.code yX8_sumIn cX8_sumIn 4 (some .int) ∈ lw_ws := ws_mem 815 (by decide +kernel) rfl
theorem wc_X8_next : Cond.code yX8_next cX8_next 5 (some .int) ∈ lw_ws := ws_mem 819 (by decide +kernel) rfl
theorem wc_X8_would : Cond.code yX8_would cX8_would 6 (some .int) ∈ lw_ws := ws_mem 823 (by decide +kernel) rfl
theorem wc_X8_copies : Cond.code yX8_copies cX8_copies 3 none ∈ lw_ws := ws_mem 826 (by decide +kernel) rfl
theorem wc_X8_meets : Cond.code yX8_meets cX8_meets 4 (some .int) ∈ lw_ws := ws_mem 830 (by decide +kernel) rfl
theorem wc_X8_longer : Cond.code yX8_longer cX8_longer 4 (some .long) ∈ lw_ws := ws_mem 834 (by decide +kernel) rfl
theorem wc_X8_count : Cond.code yX8_count cX8_count 2 (some .int) ∈ lw_ws := ws_mem 838 (by decide +kernel) rfl
theorem wc_X8_ending : Cond.code yX8_ending cX8_ending 3 (some .int) ∈ lw_ws := ws_mem 842 (by decide +kernel) rfl
theorem wc_X8_oldest : Cond.code yX8_oldest cX8_oldest 3 (some .int) ∈ lw_ws := ws_mem 846 (by decide +kernel) rfl
theorem wc_X8_undo : Cond.code yX8_undo cX8_undo 2 (some .int) ∈ lw_ws := ws_mem 850 (by decide +kernel) rfl
theorem wc_X8_type : Cond.code yX8_type cX8_type 2 (some .int) ∈ lw_ws := ws_mem 854 (by decide +kernel) rfl
theorem wc_X8_clearText : Cond.code yX8_clearText cX8_clearText 2 (some .int) ∈ lw_ws := ws_mem 858 (by decide +kernel) rfl
theorem wc_X8_fault : Cond.code yX8_fault cX8_fault 3 (some .int) ∈ lw_ws := ws_mem 862 (by decide +kernel) rfl
theorem wc_X8_plays : Cond.code yX8_plays cX8_plays 4 (some .boolean) ∈ lw_ws := ws_mem 866 (by decide +kernel) rfl
theorem wc_X8_reads : Cond.code yX8_reads cX8_reads 4 (some .boolean) ∈ lw_ws := ws_mem 870 (by decide +kernel) rfl
theorem wc_X8_isAt : Cond.code yX8_isAt cX8_isAt 3 (some .boolean) ∈ lw_ws := ws_mem 874 (by decide +kernel) rfl
theorem wc_X8_numbersOf : Cond.code yX8_numbersOf cX8_numbersOf 1 (some .int) ∈ lw_ws := ws_mem 877 (by decide +kernel) rfl
theorem wc_X8_numbered : Cond.code yX8_numbered cX8_numbered 3 (some .boolean) ∈ lw_ws := ws_mem 881 (by decide +kernel) rfl
theorem wc_X8_sign : Cond.code yX8_sign cX8_sign 3 (some .boolean) ∈ lw_ws := ws_mem 885 (by decide +kernel) rfl
theorem wc_X8_calls : Cond.code yX8_calls cX8_calls 1 (some .int) ∈ lw_ws := ws_mem 889 (by decide +kernel) rfl
theorem wc_X8_play : Cond.code yX8_play cX8_play 2 (some .int) ∈ lw_ws := ws_mem 898 (by decide +kernel) rfl
theorem wz_L : Cond.initialized RL ∈ lw_ws := ws_mem 39 (by decide +kernel) rfl
theorem wz_X7 : Cond.initialized RX7 ∈ lw_ws := ws_mem 40 (by decide +kernel) rfl
theorem wz_X3 : Cond.initialized RX3 ∈ lw_ws := ws_mem 41 (by decide +kernel) rfl
theorem wz_X0 : Cond.initialized RX0 ∈ lw_ws := ws_mem 42 (by decide +kernel) rfl
theorem wz_X1 : Cond.initialized RX1 ∈ lw_ws := ws_mem 43 (by decide +kernel) rfl
theorem wz_X2 : Cond.initialized RX2 ∈ lw_ws := ws_mem 44 (by decide +kernel) rfl
theorem wz_X4 : Cond.initialized RX4 ∈ lw_ws := ws_mem 45 (by decide +kernel) rfl
theorem wz_X6 : Cond.initialized RX6 ∈ lw_ws := ws_mem 46 (by decide +kernel) rfl
theorem wz_X5 : Cond.initialized RX5 ∈ lw_ws := ws_mem 47 (by decide +kernel) rfl
theorem wz_X8 : Cond.initialized RX8 ∈ lw_ws := ws_mem 48 (by decide +kernel) rfl
theorem wz_J10 : Cond.initialized RJ10 ∈ lw_ws := ws_mem 49 (by decide +kernel) rfl
theorem wz_J6 : Cond.initialized RJ6 ∈ lw_ws := ws_mem 50 (by decide +kernel) rfl
theorem wz_Jxe99ae : Cond.initialized RJxe99ae ∈ lw_ws := ws_mem 51 (by decide +kernel) rfl
theorem wz_J9 : Cond.initialized RJ9 ∈ lw_ws := ws_mem 52 (by decide +kernel) rfl
theorem wcl_L_7 : Cond.classLink RL 7 RX7 ∈ lw_ws := ws_mem 53 (by decide +kernel) rfl
theorem win_X7 : Cond.instantiable RX7 5 ∈ lw_ws := ws_mem 54 (by decide +kernel) rfl
theorem wi_X7_init : Cond.instanceMethod yX7_init ∈ lw_ws := ws_mem 56 (by decide +kernel) rfl
theorem wi_objInit : Cond.instanceMethod objectInit ∈ lw_ws := ws_mem 59 (by decide +kernel) rfl
theorem wcl_X7_9 : Cond.classLink RX7 9 RX3 ∈ lw_ws := ws_mem 61 (by decide +kernel) rfl
theorem win_X3 : Cond.instantiable RX3 6 ∈ lw_ws := ws_mem 62 (by decide +kernel) rfl
theorem wi_X3_init : Cond.instanceMethod yX3_init ∈ lw_ws := ws_mem 64 (by decide +kernel) rfl
theorem wcl_X3_9 : Cond.classLink RX3 9 RX0 ∈ lw_ws := ws_mem 67 (by decide +kernel) rfl
theorem wcl_X3_17 : Cond.classLink RX3 17 RX2 ∈ lw_ws := ws_mem 69 (by decide +kernel) rfl
theorem win_X0 : Cond.instantiable RX0 10 ∈ lw_ws := ws_mem 71 (by decide +kernel) rfl
theorem wi_X0_init : Cond.instanceMethod yX0_init ∈ lw_ws := ws_mem 73 (by decide +kernel) rfl
theorem wcl_X0_15 : Cond.classLink RX0 15 RX1 ∈ lw_ws := ws_mem 76 (by decide +kernel) rfl
theorem win_X1 : Cond.instantiable RX1 5 ∈ lw_ws := ws_mem 77 (by decide +kernel) rfl
theorem wi_X1_init : Cond.instanceMethod yX1_init ∈ lw_ws := ws_mem 79 (by decide +kernel) rfl
theorem wac_int : Cond.arrayClass .int ∈ lw_ws := ws_mem 103 (by decide +kernel) rfl
theorem win_X2 : Cond.instantiable RX2 4 ∈ lw_ws := ws_mem 146 (by decide +kernel) rfl
theorem wi_X2_init : Cond.instanceMethod yX2_init ∈ lw_ws := ws_mem 148 (by decide +kernel) rfl
theorem wcl_X7_19 : Cond.classLink RX7 19 RX4 ∈ lw_ws := ws_mem 193 (by decide +kernel) rfl
theorem win_X4 : Cond.instantiable RX4 2 ∈ lw_ws := ws_mem 194 (by decide +kernel) rfl
theorem wi_X4_init : Cond.instanceMethod yX4_init ∈ lw_ws := ws_mem 196 (by decide +kernel) rfl
theorem wcl_X4_9 : Cond.classLink RX4 9 RX3 ∈ lw_ws := ws_mem 199 (by decide +kernel) rfl
theorem wcl_X7_26 : Cond.classLink RX7 26 RX6 ∈ lw_ws := ws_mem 210 (by decide +kernel) rfl
theorem win_X6 : Cond.instantiable RX6 2 ∈ lw_ws := ws_mem 211 (by decide +kernel) rfl
theorem wi_X6_init : Cond.instanceMethod yX6_init ∈ lw_ws := ws_mem 213 (by decide +kernel) rfl
theorem wac_char : Cond.arrayClass .char ∈ lw_ws := ws_mem 225 (by decide +kernel) rfl
theorem wcl_X7_33 : Cond.classLink RX7 33 RX5 ∈ lw_ws := ws_mem 226 (by decide +kernel) rfl
theorem win_X5 : Cond.instantiable RX5 7 ∈ lw_ws := ws_mem 227 (by decide +kernel) rfl
theorem wi_X5_init : Cond.instanceMethod yX5_init ∈ lw_ws := ws_mem 229 (by decide +kernel) rfl
theorem wi_X7_clock : Cond.instanceMethod yX7_clock ∈ lw_ws := ws_mem 275 (by decide +kernel) rfl
theorem wi_X4_note : Cond.instanceMethod yX4_note ∈ lw_ws := ws_mem 279 (by decide +kernel) rfl
theorem wi_X3_copyFrom : Cond.instanceMethod yX3_copyFrom ∈ lw_ws := ws_mem 283 (by decide +kernel) rfl
theorem wi_X0_copyFrom : Cond.instanceMethod yX0_copyFrom ∈ lw_ws := ws_mem 287 (by decide +kernel) rfl
theorem wt_arraycopy : Cond.static arraycopyName ∈ lw_ws := ws_mem 291 (by decide +kernel) rfl
theorem wn_arraycopy : Cond.native arraycopyName ∈ lw_ws := ws_mem 292 (by decide +kernel) rfl
theorem wi_X1_copyFrom : Cond.instanceMethod yX1_copyFrom ∈ lw_ws := ws_mem 294 (by decide +kernel) rfl
theorem wi_X2_copyFrom : Cond.instanceMethod yX2_copyFrom ∈ lw_ws := ws_mem 298 (by decide +kernel) rfl
theorem wi_X3_addClock : Cond.instanceMethod yX3_addClock ∈ lw_ws := ws_mem 302 (by decide +kernel) rfl
theorem wt_X7_isClock : Cond.static yX7_isClock ∈ lw_ws := ws_mem 306 (by decide +kernel) rfl
theorem wt_X7_isLaw : Cond.static yX7_isLaw ∈ lw_ws := ws_mem 309 (by decide +kernel) rfl
theorem wt_X7_isGap : Cond.static yX7_isGap ∈ lw_ws := ws_mem 312 (by decide +kernel) rfl
theorem wt_X7_mayFollow : Cond.static yX7_mayFollow ∈ lw_ws := ws_mem 315 (by decide +kernel) rfl
theorem wi_X0_set : Cond.instanceMethod yX0_set ∈ lw_ws := ws_mem 320 (by decide +kernel) rfl
theorem wi_X1_empty : Cond.instanceMethod yX1_empty ∈ lw_ws := ws_mem 324 (by decide +kernel) rfl
theorem wi_X0_fillRound : Cond.instanceMethod yX0_fillRound ∈ lw_ws := ws_mem 329 (by decide +kernel) rfl
theorem wi_X1_add : Cond.instanceMethod yX1_add ∈ lw_ws := ws_mem 332 (by decide +kernel) rfl
theorem wi_X3_beginGap : Cond.instanceMethod yX3_beginGap ∈ lw_ws := ws_mem 337 (by decide +kernel) rfl
theorem wi_X3_draw : Cond.instanceMethod yX3_draw ∈ lw_ws := ws_mem 341 (by decide +kernel) rfl
theorem wi_X0_placeInTurn : Cond.instanceMethod yX0_placeInTurn ∈ lw_ws := ws_mem 344 (by decide +kernel) rfl
theorem wi_X0_beginAt : Cond.instanceMethod yX0_beginAt ∈ lw_ws := ws_mem 348 (by decide +kernel) rfl
theorem wi_X7_settle : Cond.instanceMethod yX7_settle ∈ lw_ws := ws_mem 353 (by decide +kernel) rfl
theorem wi_X4_keep : Cond.instanceMethod yX4_keep ∈ lw_ws := ws_mem 356 (by decide +kernel) rfl
theorem wi_X7_wind : Cond.instanceMethod yX7_wind ∈ lw_ws := ws_mem 360 (by decide +kernel) rfl
theorem wi_X3_windClock : Cond.instanceMethod yX3_windClock ∈ lw_ws := ws_mem 364 (by decide +kernel) rfl
theorem wi_X3_clockAt : Cond.instanceMethod yX3_clockAt ∈ lw_ws := ws_mem 368 (by decide +kernel) rfl
theorem wi_X7_tick : Cond.instanceMethod yX7_tick ∈ lw_ws := ws_mem 372 (by decide +kernel) rfl
theorem wi_X3_endTicks : Cond.instanceMethod yX3_endTicks ∈ lw_ws := ws_mem 376 (by decide +kernel) rfl
theorem wi_X3_endTick : Cond.instanceMethod yX3_endTick ∈ lw_ws := ws_mem 381 (by decide +kernel) rfl
theorem wi_X0_passTick : Cond.instanceMethod yX0_passTick ∈ lw_ws := ws_mem 385 (by decide +kernel) rfl
theorem wi_X2_passTick : Cond.instanceMethod yX2_passTick ∈ lw_ws := ws_mem 389 (by decide +kernel) rfl
theorem wt_J6_bitCount_0f7a4 : Cond.static yJ6_bitCount_0f7a4 ∈ lw_ws := ws_mem 393 (by decide +kernel) rfl
theorem wi_X7_passenger : Cond.instanceMethod yX7_passenger ∈ lw_ws := ws_mem 400 (by decide +kernel) rfl
theorem wi_X3_addPassenger : Cond.instanceMethod yX3_addPassenger ∈ lw_ws := ws_mem 404 (by decide +kernel) rfl
theorem wi_X7_group : Cond.instanceMethod yX7_group ∈ lw_ws := ws_mem 408 (by decide +kernel) rfl
theorem wi_X3_addGroup : Cond.instanceMethod yX3_addGroup ∈ lw_ws := ws_mem 412 (by decide +kernel) rfl
theorem wi_X2_set : Cond.instanceMethod yX2_set ∈ lw_ws := ws_mem 417 (by decide +kernel) rfl
theorem wi_X7_join : Cond.instanceMethod yX7_join ∈ lw_ws := ws_mem 421 (by decide +kernel) rfl
theorem wi_X3_joinGroup : Cond.instanceMethod yX3_joinGroup ∈ lw_ws := ws_mem 425 (by decide +kernel) rfl
theorem wi_X3_groupAt : Cond.instanceMethod yX3_groupAt ∈ lw_ws := ws_mem 429 (by decide +kernel) rfl
theorem wi_X2_has : Cond.instanceMethod yX2_has ∈ lw_ws := ws_mem 433 (by decide +kernel) rfl
theorem wi_X2_size : Cond.instanceMethod yX2_size ∈ lw_ws := ws_mem 438 (by decide +kernel) rfl
theorem wi_X7_leave : Cond.instanceMethod yX7_leave ∈ lw_ws := ws_mem 442 (by decide +kernel) rfl
theorem wi_X3_leaveGroup : Cond.instanceMethod yX3_leaveGroup ∈ lw_ws := ws_mem 446 (by decide +kernel) rfl
theorem wi_X7_clockOf : Cond.instanceMethod yX7_clockOf ∈ lw_ws := ws_mem 450 (by decide +kernel) rfl
theorem wi_X0_tell : Cond.instanceMethod yX0_tell ∈ lw_ws := ws_mem 456 (by decide +kernel) rfl
theorem wi_X0_age : Cond.instanceMethod yX0_age ∈ lw_ws := ws_mem 460 (by decide +kernel) rfl
theorem wi_X7_mean : Cond.instanceMethod yX7_mean ∈ lw_ws := ws_mem 465 (by decide +kernel) rfl
theorem wi_X1_meanOf : Cond.instanceMethod yX1_meanOf ∈ lw_ws := ws_mem 470 (by decide +kernel) rfl
theorem wt_X7_bitsOf : Cond.static yX7_bitsOf ∈ lw_ws := ws_mem 474 (by decide +kernel) rfl
theorem wi_X7_groupOf : Cond.instanceMethod yX7_groupOf ∈ lw_ws := ws_mem 481 (by decide +kernel) rfl
theorem wi_X3_leastRest : Cond.instanceMethod yX3_leastRest ∈ lw_ws := ws_mem 486 (by decide +kernel) rfl
theorem wi_X3_sumOver : Cond.instanceMethod yX3_sumOver ∈ lw_ws := ws_mem 491 (by decide +kernel) rfl
theorem wi_X7_next : Cond.instanceMethod yX7_next ∈ lw_ws := ws_mem 496 (by decide +kernel) rfl
theorem wi_X3_clockInPlace : Cond.instanceMethod yX3_clockInPlace ∈ lw_ws := ws_mem 500 (by decide +kernel) rfl
theorem wi_X3_clocksAhead : Cond.instanceMethod yX3_clocksAhead ∈ lw_ws := ws_mem 505 (by decide +kernel) rfl
theorem wi_X7_would : Cond.instanceMethod yX7_would ∈ lw_ws := ws_mem 508 (by decide +kernel) rfl
theorem wi_X7_meets : Cond.instanceMethod yX7_meets ∈ lw_ws := ws_mem 515 (by decide +kernel) rfl
theorem wi_X7_longer : Cond.instanceMethod yX7_longer ∈ lw_ws := ws_mem 520 (by decide +kernel) rfl
theorem wi_X3_waitDueToAll : Cond.instanceMethod yX3_waitDueToAll ∈ lw_ws := ws_mem 524 (by decide +kernel) rfl
theorem wi_X7_count : Cond.instanceMethod yX7_count ∈ lw_ws := ws_mem 529 (by decide +kernel) rfl
theorem wi_X3_aboutToTell : Cond.instanceMethod yX3_aboutToTell ∈ lw_ws := ws_mem 533 (by decide +kernel) rfl
theorem wi_X3_greatestAge : Cond.instanceMethod yX3_greatestAge ∈ lw_ws := ws_mem 537 (by decide +kernel) rfl
theorem wt_J9_max_7cf53 : Cond.static yJ9_max_7cf53 ∈ lw_ws := ws_mem 542 (by decide +kernel) rfl
theorem wi_X7_undo : Cond.instanceMethod yX7_undo ∈ lw_ws := ws_mem 545 (by decide +kernel) rfl
theorem wi_X4_restore : Cond.instanceMethod yX4_restore ∈ lw_ws := ws_mem 549 (by decide +kernel) rfl
theorem wi_X7_type : Cond.instanceMethod yX7_type ∈ lw_ws := ws_mem 554 (by decide +kernel) rfl
theorem wi_X6_append : Cond.instanceMethod yX6_append ∈ lw_ws := ws_mem 558 (by decide +kernel) rfl
theorem wi_X7_clearText : Cond.instanceMethod yX7_clearText ∈ lw_ws := ws_mem 563 (by decide +kernel) rfl
theorem wi_X7_fault : Cond.instanceMethod yX7_fault ∈ lw_ws := ws_mem 567 (by decide +kernel) rfl
theorem wi_X5_tryOut : Cond.instanceMethod yX5_tryOut ∈ lw_ws := ws_mem 571 (by decide +kernel) rfl
theorem wi_X5_readOrder : Cond.instanceMethod yX5_readOrder ∈ lw_ws := ws_mem 577 (by decide +kernel) rfl
theorem wi_X6_signAt : Cond.instanceMethod yX6_signAt ∈ lw_ws := ws_mem 580 (by decide +kernel) rfl
theorem wt_X5_numbersBehind : Cond.static yX5_numbersBehind ∈ lw_ws := ws_mem 584 (by decide +kernel) rfl
theorem wi_X5_readNumber : Cond.instanceMethod yX5_readNumber ∈ lw_ws := ws_mem 588 (by decide +kernel) rfl
theorem wt_X5_isDigit : Cond.static yX5_isDigit ∈ lw_ws := ws_mem 591 (by decide +kernel) rfl
theorem wi_X5_setFault : Cond.instanceMethod yX5_setFault ∈ lw_ws := ws_mem 595 (by decide +kernel) rfl
theorem wi_X5_obey : Cond.instanceMethod yX5_obey ∈ lw_ws := ws_mem 599 (by decide +kernel) rfl
theorem wi_X7_play : Cond.instanceMethod yX7_play ∈ lw_ws := ws_mem 607 (by decide +kernel) rfl
theorem wcl_L_10 : Cond.classLink RL 10 RX8 ∈ lw_ws := ws_mem 610 (by decide +kernel) rfl
theorem win_X8 : Cond.instantiable RX8 15 ∈ lw_ws := ws_mem 611 (by decide +kernel) rfl
theorem wi_X8_init : Cond.instanceMethod yX8_init ∈ lw_ws := ws_mem 613 (by decide +kernel) rfl
theorem wi_X8_clock : Cond.instanceMethod yX8_clock ∈ lw_ws := ws_mem 663 (by decide +kernel) rfl
theorem wt_X8_isLaw : Cond.static yX8_isLaw ∈ lw_ws := ws_mem 667 (by decide +kernel) rfl
theorem wt_X8_in : Cond.static yX8_in ∈ lw_ws := ws_mem 670 (by decide +kernel) rfl
theorem wi_X8_changes : Cond.instanceMethod yX8_changes ∈ lw_ws := ws_mem 676 (by decide +kernel) rfl
theorem wi_X8_sets : Cond.instanceMethod yX8_sets ∈ lw_ws := ws_mem 680 (by decide +kernel) rfl
theorem wi_X8_begins : Cond.instanceMethod yX8_begins ∈ lw_ws := ws_mem 684 (by decide +kernel) rfl
theorem wi_X8_of : Cond.instanceMethod yX8_of ∈ lw_ws := ws_mem 688 (by decide +kernel) rfl
theorem wi_X8_places : Cond.instanceMethod yX8_places ∈ lw_ws := ws_mem 692 (by decide +kernel) rfl
theorem wi_X8_draw : Cond.instanceMethod yX8_draw ∈ lw_ws := ws_mem 696 (by decide +kernel) rfl
theorem wi_X8_gapAt : Cond.instanceMethod yX8_gapAt ∈ lw_ws := ws_mem 700 (by decide +kernel) rfl
theorem wi_X8_wind : Cond.instanceMethod yX8_wind ∈ lw_ws := ws_mem 703 (by decide +kernel) rfl
theorem wi_X8_isClock : Cond.instanceMethod yX8_isClock ∈ lw_ws := ws_mem 708 (by decide +kernel) rfl
theorem wi_X8_adds : Cond.instanceMethod yX8_adds ∈ lw_ws := ws_mem 712 (by decide +kernel) rfl
theorem wi_X8_tick : Cond.instanceMethod yX8_tick ∈ lw_ws := ws_mem 715 (by decide +kernel) rfl
theorem wi_X8_endsFor : Cond.instanceMethod yX8_endsFor ∈ lw_ws := ws_mem 721 (by decide +kernel) rfl
theorem wi_X8_sum : Cond.instanceMethod yX8_sum ∈ lw_ws := ws_mem 725 (by decide +kernel) rfl
theorem wi_X8_ends : Cond.instanceMethod yX8_ends ∈ lw_ws := ws_mem 729 (by decide +kernel) rfl
theorem wi_X8_rest : Cond.instanceMethod yX8_rest ∈ lw_ws := ws_mem 733 (by decide +kernel) rfl
theorem wi_X8_tells : Cond.instanceMethod yX8_tells ∈ lw_ws := ws_mem 737 (by decide +kernel) rfl
theorem wi_X8_ofGroup : Cond.instanceMethod yX8_ofGroup ∈ lw_ws := ws_mem 741 (by decide +kernel) rfl
theorem wi_X8_ones : Cond.instanceMethod yX8_ones ∈ lw_ws := ws_mem 745 (by decide +kernel) rfl
theorem wi_X8_passenger : Cond.instanceMethod yX8_passenger ∈ lw_ws := ws_mem 748 (by decide +kernel) rfl
theorem wi_X8_group : Cond.instanceMethod yX8_group ∈ lw_ws := ws_mem 752 (by decide +kernel) rfl
theorem wi_X8_join : Cond.instanceMethod yX8_join ∈ lw_ws := ws_mem 756 (by decide +kernel) rfl
theorem wi_X8_isGroup : Cond.instanceMethod yX8_isGroup ∈ lw_ws := ws_mem 761 (by decide +kernel) rfl
theorem wi_X8_isIn : Cond.instanceMethod yX8_isIn ∈ lw_ws := ws_mem 765 (by decide +kernel) rfl
theorem wi_X8_leave : Cond.instanceMethod yX8_leave ∈ lw_ws := ws_mem 769 (by decide +kernel) rfl
theorem wi_X8_clockOf : Cond.instanceMethod yX8_clockOf ∈ lw_ws := ws_mem 773 (by decide +kernel) rfl
theorem wi_X8_mean : Cond.instanceMethod yX8_mean ∈ lw_ws := ws_mem 778 (by decide +kernel) rfl
theorem wi_X8_lawMean : Cond.instanceMethod yX8_lawMean ∈ lw_ws := ws_mem 784 (by decide +kernel) rfl
theorem wi_X8_ofLaw : Cond.instanceMethod yX8_ofLaw ∈ lw_ws := ws_mem 788 (by decide +kernel) rfl
theorem wt_X8_meanOf : Cond.static yX8_meanOf ∈ lw_ws := ws_mem 791 (by decide +kernel) rfl
theorem wt_Jxe99ae_doubleToLongBits_ccdee : Cond.static yJxe99ae_doubleToLongBits_ccdee ∈ lw_ws := ws_mem 794 (by decide +kernel) rfl
theorem wt_Jxe99ae_isNaN_b9ae7 : Cond.static yJxe99ae_isNaN_b9ae7 ∈ lw_ws := ws_mem 797 (by decide +kernel) rfl
theorem wt_d2raw : Cond.static ⟨"java/lang/Double", "doubleToRawLongBits", "(D)J"⟩ ∈ lw_ws := ws_mem 800 (by decide +kernel) rfl
theorem wn_d2raw : Cond.native ⟨"java/lang/Double", "doubleToRawLongBits", "(D)J"⟩ ∈ lw_ws := ws_mem 801 (by decide +kernel) rfl
theorem wi_X8_groupOf : Cond.instanceMethod yX8_groupOf ∈ lw_ws := ws_mem 805 (by decide +kernel) rfl
theorem wi_X8_leastRest : Cond.instanceMethod yX8_leastRest ∈ lw_ws := ws_mem 810 (by decide +kernel) rfl
theorem wi_X8_sumIn : Cond.instanceMethod yX8_sumIn ∈ lw_ws := ws_mem 814 (by decide +kernel) rfl
theorem wi_X8_next : Cond.instanceMethod yX8_next ∈ lw_ws := ws_mem 817 (by decide +kernel) rfl
theorem wi_X8_would : Cond.instanceMethod yX8_would ∈ lw_ws := ws_mem 821 (by decide +kernel) rfl
theorem wt_X8_copies : Cond.static yX8_copies ∈ lw_ws := ws_mem 825 (by decide +kernel) rfl
theorem wi_X8_meets : Cond.instanceMethod yX8_meets ∈ lw_ws := ws_mem 828 (by decide +kernel) rfl
theorem wi_X8_longer : Cond.instanceMethod yX8_longer ∈ lw_ws := ws_mem 832 (by decide +kernel) rfl
theorem wi_X8_count : Cond.instanceMethod yX8_count ∈ lw_ws := ws_mem 836 (by decide +kernel) rfl
theorem wi_X8_ending : Cond.instanceMethod yX8_ending ∈ lw_ws := ws_mem 841 (by decide +kernel) rfl
theorem wi_X8_oldest : Cond.instanceMethod yX8_oldest ∈ lw_ws := ws_mem 845 (by decide +kernel) rfl
theorem wi_X8_undo : Cond.instanceMethod yX8_undo ∈ lw_ws := ws_mem 848 (by decide +kernel) rfl
theorem wi_X8_type : Cond.instanceMethod yX8_type ∈ lw_ws := ws_mem 852 (by decide +kernel) rfl
theorem wi_X8_clearText : Cond.instanceMethod yX8_clearText ∈ lw_ws := ws_mem 856 (by decide +kernel) rfl
theorem wi_X8_fault : Cond.instanceMethod yX8_fault ∈ lw_ws := ws_mem 860 (by decide +kernel) rfl
theorem wi_X8_plays : Cond.instanceMethod yX8_plays ∈ lw_ws := ws_mem 865 (by decide +kernel) rfl
theorem wi_X8_reads : Cond.instanceMethod yX8_reads ∈ lw_ws := ws_mem 869 (by decide +kernel) rfl
theorem wi_X8_isAt : Cond.instanceMethod yX8_isAt ∈ lw_ws := ws_mem 873 (by decide +kernel) rfl
theorem wt_X8_numbersOf : Cond.static yX8_numbersOf ∈ lw_ws := ws_mem 876 (by decide +kernel) rfl
theorem wi_X8_numbered : Cond.instanceMethod yX8_numbered ∈ lw_ws := ws_mem 880 (by decide +kernel) rfl
theorem wi_X8_sign : Cond.instanceMethod yX8_sign ∈ lw_ws := ws_mem 884 (by decide +kernel) rfl
theorem wi_X8_calls : Cond.instanceMethod yX8_calls ∈ lw_ws := ws_mem 888 (by decide +kernel) rfl
theorem wi_X8_play : Cond.instanceMethod yX8_play ∈ lw_ws := ws_mem 896 (by decide +kernel) rfl
theorem ws_X7_clock : Cond.selects RX7 yX7_clock yX7_clock ∈ lw_ws := ws_mem 276 (by decide +kernel) rfl
theorem ws_X4_note : Cond.selects RX4 yX4_note yX4_note ∈ lw_ws := ws_mem 280 (by decide +kernel) rfl
theorem ws_X3_copyFrom : Cond.selects RX3 yX3_copyFrom yX3_copyFrom ∈ lw_ws := ws_mem 284 (by decide +kernel) rfl
theorem ws_X0_copyFrom : Cond.selects RX0 yX0_copyFrom yX0_copyFrom ∈ lw_ws := ws_mem 288 (by decide +kernel) rfl
theorem ws_X1_copyFrom : Cond.selects RX1 yX1_copyFrom yX1_copyFrom ∈ lw_ws := ws_mem 295 (by decide +kernel) rfl
theorem ws_X2_copyFrom : Cond.selects RX2 yX2_copyFrom yX2_copyFrom ∈ lw_ws := ws_mem 299 (by decide +kernel) rfl
theorem ws_X3_addClock : Cond.selects RX3 yX3_addClock yX3_addClock ∈ lw_ws := ws_mem 303 (by decide +kernel) rfl
theorem ws_X0_set : Cond.selects RX0 yX0_set yX0_set ∈ lw_ws := ws_mem 321 (by decide +kernel) rfl
theorem ws_X1_empty : Cond.selects RX1 yX1_empty yX1_empty ∈ lw_ws := ws_mem 325 (by decide +kernel) rfl
theorem ws_X1_add : Cond.selects RX1 yX1_add yX1_add ∈ lw_ws := ws_mem 333 (by decide +kernel) rfl
theorem ws_X0_placeInTurn : Cond.selects RX0 yX0_placeInTurn yX0_placeInTurn ∈ lw_ws := ws_mem 345 (by decide +kernel) rfl
theorem ws_X0_beginAt : Cond.selects RX0 yX0_beginAt yX0_beginAt ∈ lw_ws := ws_mem 349 (by decide +kernel) rfl
theorem ws_X4_keep : Cond.selects RX4 yX4_keep yX4_keep ∈ lw_ws := ws_mem 357 (by decide +kernel) rfl
theorem ws_X7_wind : Cond.selects RX7 yX7_wind yX7_wind ∈ lw_ws := ws_mem 361 (by decide +kernel) rfl
theorem ws_X3_windClock : Cond.selects RX3 yX3_windClock yX3_windClock ∈ lw_ws := ws_mem 365 (by decide +kernel) rfl
theorem ws_X3_clockAt : Cond.selects RX3 yX3_clockAt yX3_clockAt ∈ lw_ws := ws_mem 369 (by decide +kernel) rfl
theorem ws_X7_tick : Cond.selects RX7 yX7_tick yX7_tick ∈ lw_ws := ws_mem 373 (by decide +kernel) rfl
theorem ws_X3_endTicks : Cond.selects RX3 yX3_endTicks yX3_endTicks ∈ lw_ws := ws_mem 377 (by decide +kernel) rfl
theorem ws_X3_endTick : Cond.selects RX3 yX3_endTick yX3_endTick ∈ lw_ws := ws_mem 382 (by decide +kernel) rfl
theorem ws_X0_passTick : Cond.selects RX0 yX0_passTick yX0_passTick ∈ lw_ws := ws_mem 386 (by decide +kernel) rfl
theorem ws_X2_passTick : Cond.selects RX2 yX2_passTick yX2_passTick ∈ lw_ws := ws_mem 390 (by decide +kernel) rfl
theorem ws_X7_passenger : Cond.selects RX7 yX7_passenger yX7_passenger ∈ lw_ws := ws_mem 401 (by decide +kernel) rfl
theorem ws_X3_addPassenger : Cond.selects RX3 yX3_addPassenger yX3_addPassenger ∈ lw_ws := ws_mem 405 (by decide +kernel) rfl
theorem ws_X7_group : Cond.selects RX7 yX7_group yX7_group ∈ lw_ws := ws_mem 409 (by decide +kernel) rfl
theorem ws_X3_addGroup : Cond.selects RX3 yX3_addGroup yX3_addGroup ∈ lw_ws := ws_mem 413 (by decide +kernel) rfl
theorem ws_X2_set : Cond.selects RX2 yX2_set yX2_set ∈ lw_ws := ws_mem 418 (by decide +kernel) rfl
theorem ws_X7_join : Cond.selects RX7 yX7_join yX7_join ∈ lw_ws := ws_mem 422 (by decide +kernel) rfl
theorem ws_X3_joinGroup : Cond.selects RX3 yX3_joinGroup yX3_joinGroup ∈ lw_ws := ws_mem 426 (by decide +kernel) rfl
theorem ws_X3_groupAt : Cond.selects RX3 yX3_groupAt yX3_groupAt ∈ lw_ws := ws_mem 430 (by decide +kernel) rfl
theorem ws_X2_has : Cond.selects RX2 yX2_has yX2_has ∈ lw_ws := ws_mem 434 (by decide +kernel) rfl
theorem ws_X2_size : Cond.selects RX2 yX2_size yX2_size ∈ lw_ws := ws_mem 439 (by decide +kernel) rfl
theorem ws_X7_leave : Cond.selects RX7 yX7_leave yX7_leave ∈ lw_ws := ws_mem 443 (by decide +kernel) rfl
theorem ws_X3_leaveGroup : Cond.selects RX3 yX3_leaveGroup yX3_leaveGroup ∈ lw_ws := ws_mem 447 (by decide +kernel) rfl
theorem ws_X7_clockOf : Cond.selects RX7 yX7_clockOf yX7_clockOf ∈ lw_ws := ws_mem 451 (by decide +kernel) rfl
theorem ws_X0_tell : Cond.selects RX0 yX0_tell yX0_tell ∈ lw_ws := ws_mem 457 (by decide +kernel) rfl
theorem ws_X0_age : Cond.selects RX0 yX0_age yX0_age ∈ lw_ws := ws_mem 461 (by decide +kernel) rfl
theorem ws_X7_mean : Cond.selects RX7 yX7_mean yX7_mean ∈ lw_ws := ws_mem 466 (by decide +kernel) rfl
theorem ws_X1_meanOf : Cond.selects RX1 yX1_meanOf yX1_meanOf ∈ lw_ws := ws_mem 471 (by decide +kernel) rfl
theorem ws_X7_groupOf : Cond.selects RX7 yX7_groupOf yX7_groupOf ∈ lw_ws := ws_mem 482 (by decide +kernel) rfl
theorem ws_X3_leastRest : Cond.selects RX3 yX3_leastRest yX3_leastRest ∈ lw_ws := ws_mem 487 (by decide +kernel) rfl
theorem ws_X3_sumOver : Cond.selects RX3 yX3_sumOver yX3_sumOver ∈ lw_ws := ws_mem 492 (by decide +kernel) rfl
theorem ws_X7_next : Cond.selects RX7 yX7_next yX7_next ∈ lw_ws := ws_mem 497 (by decide +kernel) rfl
theorem ws_X3_clockInPlace : Cond.selects RX3 yX3_clockInPlace yX3_clockInPlace ∈ lw_ws := ws_mem 501 (by decide +kernel) rfl
theorem ws_X7_would : Cond.selects RX7 yX7_would yX7_would ∈ lw_ws := ws_mem 509 (by decide +kernel) rfl
theorem ws_X7_meets : Cond.selects RX7 yX7_meets yX7_meets ∈ lw_ws := ws_mem 516 (by decide +kernel) rfl
theorem ws_X7_longer : Cond.selects RX7 yX7_longer yX7_longer ∈ lw_ws := ws_mem 521 (by decide +kernel) rfl
theorem ws_X3_waitDueToAll : Cond.selects RX3 yX3_waitDueToAll yX3_waitDueToAll ∈ lw_ws := ws_mem 525 (by decide +kernel) rfl
theorem ws_X7_count : Cond.selects RX7 yX7_count yX7_count ∈ lw_ws := ws_mem 530 (by decide +kernel) rfl
theorem ws_X3_aboutToTell : Cond.selects RX3 yX3_aboutToTell yX3_aboutToTell ∈ lw_ws := ws_mem 534 (by decide +kernel) rfl
theorem ws_X3_greatestAge : Cond.selects RX3 yX3_greatestAge yX3_greatestAge ∈ lw_ws := ws_mem 538 (by decide +kernel) rfl
theorem ws_X7_undo : Cond.selects RX7 yX7_undo yX7_undo ∈ lw_ws := ws_mem 546 (by decide +kernel) rfl
theorem ws_X4_restore : Cond.selects RX4 yX4_restore yX4_restore ∈ lw_ws := ws_mem 550 (by decide +kernel) rfl
theorem ws_X7_type : Cond.selects RX7 yX7_type yX7_type ∈ lw_ws := ws_mem 555 (by decide +kernel) rfl
theorem ws_X6_append : Cond.selects RX6 yX6_append yX6_append ∈ lw_ws := ws_mem 559 (by decide +kernel) rfl
theorem ws_X7_clearText : Cond.selects RX7 yX7_clearText yX7_clearText ∈ lw_ws := ws_mem 564 (by decide +kernel) rfl
theorem ws_X7_fault : Cond.selects RX7 yX7_fault yX7_fault ∈ lw_ws := ws_mem 568 (by decide +kernel) rfl
theorem ws_X5_tryOut : Cond.selects RX5 yX5_tryOut yX5_tryOut ∈ lw_ws := ws_mem 572 (by decide +kernel) rfl
theorem ws_X6_signAt : Cond.selects RX6 yX6_signAt yX6_signAt ∈ lw_ws := ws_mem 581 (by decide +kernel) rfl
theorem ws_X7_play : Cond.selects RX7 yX7_play yX7_play ∈ lw_ws := ws_mem 608 (by decide +kernel) rfl
theorem ws_X8_clock : Cond.selects RX8 yX8_clock yX8_clock ∈ lw_ws := ws_mem 664 (by decide +kernel) rfl
theorem ws_X8_wind : Cond.selects RX8 yX8_wind yX8_wind ∈ lw_ws := ws_mem 704 (by decide +kernel) rfl
theorem ws_X8_tick : Cond.selects RX8 yX8_tick yX8_tick ∈ lw_ws := ws_mem 716 (by decide +kernel) rfl
theorem ws_X8_passenger : Cond.selects RX8 yX8_passenger yX8_passenger ∈ lw_ws := ws_mem 749 (by decide +kernel) rfl
theorem ws_X8_group : Cond.selects RX8 yX8_group yX8_group ∈ lw_ws := ws_mem 753 (by decide +kernel) rfl
theorem ws_X8_join : Cond.selects RX8 yX8_join yX8_join ∈ lw_ws := ws_mem 757 (by decide +kernel) rfl
theorem ws_X8_leave : Cond.selects RX8 yX8_leave yX8_leave ∈ lw_ws := ws_mem 770 (by decide +kernel) rfl
theorem ws_X8_clockOf : Cond.selects RX8 yX8_clockOf yX8_clockOf ∈ lw_ws := ws_mem 774 (by decide +kernel) rfl
theorem ws_X8_mean : Cond.selects RX8 yX8_mean yX8_mean ∈ lw_ws := ws_mem 779 (by decide +kernel) rfl
theorem ws_X8_groupOf : Cond.selects RX8 yX8_groupOf yX8_groupOf ∈ lw_ws := ws_mem 806 (by decide +kernel) rfl
theorem ws_X8_next : Cond.selects RX8 yX8_next yX8_next ∈ lw_ws := ws_mem 818 (by decide +kernel) rfl
theorem ws_X8_would : Cond.selects RX8 yX8_would yX8_would ∈ lw_ws := ws_mem 822 (by decide +kernel) rfl
theorem ws_X8_meets : Cond.selects RX8 yX8_meets yX8_meets ∈ lw_ws := ws_mem 829 (by decide +kernel) rfl
theorem ws_X8_longer : Cond.selects RX8 yX8_longer yX8_longer ∈ lw_ws := ws_mem 833 (by decide +kernel) rfl
theorem ws_X8_count : Cond.selects RX8 yX8_count yX8_count ∈ lw_ws := ws_mem 837 (by decide +kernel) rfl
theorem ws_X8_undo : Cond.selects RX8 yX8_undo yX8_undo ∈ lw_ws := ws_mem 849 (by decide +kernel) rfl
theorem ws_X8_type : Cond.selects RX8 yX8_type yX8_type ∈ lw_ws := ws_mem 853 (by decide +kernel) rfl
theorem ws_X8_clearText : Cond.selects RX8 yX8_clearText yX8_clearText ∈ lw_ws := ws_mem 857 (by decide +kernel) rfl
theorem ws_X8_fault : Cond.selects RX8 yX8_fault yX8_fault ∈ lw_ws := ws_mem 861 (by decide +kernel) rfl
theorem ws_X8_play : Cond.selects RX8 yX8_play yX8_play ∈ lw_ws := ws_mem 897 (by decide +kernel) rfl
theorem ws_X0_fillRound : Cond.selects RX0 yX0_fillRound yX0_fillRound ∈ lw_ws := ws_mem 0 (by decide +kernel) rfl
theorem ws_X3_beginGap : Cond.selects RX3 yX3_beginGap yX3_beginGap ∈ lw_ws := ws_mem 1 (by decide +kernel) rfl
theorem ws_X3_draw : Cond.selects RX3 yX3_draw yX3_draw ∈ lw_ws := ws_mem 2 (by decide +kernel) rfl
theorem ws_X7_settle : Cond.selects RX7 yX7_settle yX7_settle ∈ lw_ws := ws_mem 3 (by decide +kernel) rfl
theorem ws_X3_clocksAhead : Cond.selects RX3 yX3_clocksAhead yX3_clocksAhead ∈ lw_ws := ws_mem 4 (by decide +kernel) rfl
theorem ws_X5_readOrder : Cond.selects RX5 yX5_readOrder yX5_readOrder ∈ lw_ws := ws_mem 5 (by decide +kernel) rfl
theorem ws_X5_readNumber : Cond.selects RX5 yX5_readNumber yX5_readNumber ∈ lw_ws := ws_mem 6 (by decide +kernel) rfl
theorem ws_X5_setFault : Cond.selects RX5 yX5_setFault yX5_setFault ∈ lw_ws := ws_mem 7 (by decide +kernel) rfl
theorem ws_X5_obey : Cond.selects RX5 yX5_obey yX5_obey ∈ lw_ws := ws_mem 8 (by decide +kernel) rfl
theorem ws_X8_changes : Cond.selects RX8 yX8_changes yX8_changes ∈ lw_ws := ws_mem 9 (by decide +kernel) rfl
theorem ws_X8_sets : Cond.selects RX8 yX8_sets yX8_sets ∈ lw_ws := ws_mem 10 (by decide +kernel) rfl
theorem ws_X8_begins : Cond.selects RX8 yX8_begins yX8_begins ∈ lw_ws := ws_mem 11 (by decide +kernel) rfl
theorem ws_X8_of : Cond.selects RX8 yX8_of yX8_of ∈ lw_ws := ws_mem 12 (by decide +kernel) rfl
theorem ws_X8_places : Cond.selects RX8 yX8_places yX8_places ∈ lw_ws := ws_mem 13 (by decide +kernel) rfl
theorem ws_X8_draw : Cond.selects RX8 yX8_draw yX8_draw ∈ lw_ws := ws_mem 14 (by decide +kernel) rfl
theorem ws_X8_gapAt : Cond.selects RX8 yX8_gapAt yX8_gapAt ∈ lw_ws := ws_mem 15 (by decide +kernel) rfl
theorem ws_X8_isClock : Cond.selects RX8 yX8_isClock yX8_isClock ∈ lw_ws := ws_mem 16 (by decide +kernel) rfl
theorem ws_X8_adds : Cond.selects RX8 yX8_adds yX8_adds ∈ lw_ws := ws_mem 17 (by decide +kernel) rfl
theorem ws_X8_endsFor : Cond.selects RX8 yX8_endsFor yX8_endsFor ∈ lw_ws := ws_mem 18 (by decide +kernel) rfl
theorem ws_X8_sum : Cond.selects RX8 yX8_sum yX8_sum ∈ lw_ws := ws_mem 19 (by decide +kernel) rfl
theorem ws_X8_ends : Cond.selects RX8 yX8_ends yX8_ends ∈ lw_ws := ws_mem 20 (by decide +kernel) rfl
theorem ws_X8_rest : Cond.selects RX8 yX8_rest yX8_rest ∈ lw_ws := ws_mem 21 (by decide +kernel) rfl
theorem ws_X8_tells : Cond.selects RX8 yX8_tells yX8_tells ∈ lw_ws := ws_mem 22 (by decide +kernel) rfl
theorem ws_X8_ofGroup : Cond.selects RX8 yX8_ofGroup yX8_ofGroup ∈ lw_ws := ws_mem 23 (by decide +kernel) rfl
theorem ws_X8_ones : Cond.selects RX8 yX8_ones yX8_ones ∈ lw_ws := ws_mem 24 (by decide +kernel) rfl
theorem ws_X8_isGroup : Cond.selects RX8 yX8_isGroup yX8_isGroup ∈ lw_ws := ws_mem 25 (by decide +kernel) rfl
theorem ws_X8_isIn : Cond.selects RX8 yX8_isIn yX8_isIn ∈ lw_ws := ws_mem 26 (by decide +kernel) rfl
theorem ws_X8_lawMean : Cond.selects RX8 yX8_lawMean yX8_lawMean ∈ lw_ws := ws_mem 27 (by decide +kernel) rfl
theorem ws_X8_ofLaw : Cond.selects RX8 yX8_ofLaw yX8_ofLaw ∈ lw_ws := ws_mem 28 (by decide +kernel) rfl
theorem ws_X8_leastRest : Cond.selects RX8 yX8_leastRest yX8_leastRest ∈ lw_ws := ws_mem 29 (by decide +kernel) rfl
theorem ws_X8_sumIn : Cond.selects RX8 yX8_sumIn yX8_sumIn ∈ lw_ws := ws_mem 30 (by decide +kernel) rfl
theorem ws_X8_ending : Cond.selects RX8 yX8_ending yX8_ending ∈ lw_ws := ws_mem 31 (by decide +kernel) rfl
theorem ws_X8_oldest : Cond.selects RX8 yX8_oldest yX8_oldest ∈ lw_ws := ws_mem 32 (by decide +kernel) rfl
theorem ws_X8_plays : Cond.selects RX8 yX8_plays yX8_plays ∈ lw_ws := ws_mem 33 (by decide +kernel) rfl
theorem ws_X8_reads : Cond.selects RX8 yX8_reads yX8_reads ∈ lw_ws := ws_mem 34 (by decide +kernel) rfl
theorem ws_X8_isAt : Cond.selects RX8 yX8_isAt yX8_isAt ∈ lw_ws := ws_mem 35 (by decide +kernel) rfl
theorem ws_X8_numbered : Cond.selects RX8 yX8_numbered yX8_numbered ∈ lw_ws := ws_mem 36 (by decide +kernel) rfl
theorem ws_X8_sign : Cond.selects RX8 yX8_sign yX8_sign ∈ lw_ws := ws_mem 37 (by decide +kernel) rfl
theorem ws_X8_calls : Cond.selects RX8 yX8_calls yX8_calls ∈ lw_ws := ws_mem 38 (by decide +kernel) rfl
theorem wl_X7_108 : Cond.methodLink RX7 108 yX3_groupAt ∈ lw_ws := ws_mem 484 (by decide +kernel) rfl
theorem wl_X7_11 : Cond.methodLink RX7 11 yX3_init ∈ lw_ws := ws_mem 63 (by decide +kernel) rfl
theorem wl_X7_120 : Cond.methodLink RX7 120 yX3_leastRest ∈ lw_ws := ws_mem 485 (by decide +kernel) rfl
theorem wl_X7_128 : Cond.methodLink RX7 128 yX3_sumOver ∈ lw_ws := ws_mem 490 (by decide +kernel) rfl
theorem wl_X7_131 : Cond.methodLink RX7 131 yX3_clockInPlace ∈ lw_ws := ws_mem 499 (by decide +kernel) rfl
theorem wl_X7_134 : Cond.methodLink RX7 134 yX3_copyFrom ∈ lw_ws := ws_mem 511 (by decide +kernel) rfl
theorem wl_X7_137 : Cond.methodLink RX7 137 yX3_endTick ∈ lw_ws := ws_mem 512 (by decide +kernel) rfl
theorem wl_X7_141 : Cond.methodLink RX7 141 yX0_age ∈ lw_ws := ws_mem 513 (by decide +kernel) rfl
theorem wl_X7_151 : Cond.methodLink RX7 151 yX3_waitDueToAll ∈ lw_ws := ws_mem 523 (by decide +kernel) rfl
theorem wl_X7_167 : Cond.methodLink RX7 167 yX3_aboutToTell ∈ lw_ws := ws_mem 532 (by decide +kernel) rfl
theorem wl_X7_170 : Cond.methodLink RX7 170 yX3_greatestAge ∈ lw_ws := ws_mem 536 (by decide +kernel) rfl
theorem wl_X7_179 : Cond.methodLink RX7 179 yX4_restore ∈ lw_ws := ws_mem 548 (by decide +kernel) rfl
theorem wl_X7_184 : Cond.methodLink RX7 184 yX6_append ∈ lw_ws := ws_mem 557 (by decide +kernel) rfl
theorem wl_X7_189 : Cond.methodLink RX7 189 yX5_tryOut ∈ lw_ws := ws_mem 570 (by decide +kernel) rfl
theorem wl_X7_203 : Cond.methodLink RX7 203 yX4_keep ∈ lw_ws := ws_mem 355 (by decide +kernel) rfl
theorem wl_X7_21 : Cond.methodLink RX7 21 yX4_init ∈ lw_ws := ws_mem 195 (by decide +kernel) rfl
theorem wl_X7_212 : Cond.methodLink RX7 212 yX7_isLaw ∈ lw_ws := ws_mem 308 (by decide +kernel) rfl
theorem wl_X7_216 : Cond.methodLink RX7 216 yX7_isGap ∈ lw_ws := ws_mem 311 (by decide +kernel) rfl
theorem wl_X7_219 : Cond.methodLink RX7 219 yX7_mayFollow ∈ lw_ws := ws_mem 314 (by decide +kernel) rfl
theorem wl_X7_3 : Cond.methodLink RX7 3 objectInit ∈ lw_ws := ws_mem 58 (by decide +kernel) rfl
theorem wl_X7_35 : Cond.methodLink RX7 35 yX5_init ∈ lw_ws := ws_mem 228 (by decide +kernel) rfl
theorem wl_X7_42 : Cond.methodLink RX7 42 yX4_note ∈ lw_ws := ws_mem 278 (by decide +kernel) rfl
theorem wl_X7_46 : Cond.methodLink RX7 46 yX3_addClock ∈ lw_ws := ws_mem 301 (by decide +kernel) rfl
theorem wl_X7_50 : Cond.methodLink RX7 50 yX7_settle ∈ lw_ws := ws_mem 351 (by decide +kernel) rfl
theorem wl_X7_54 : Cond.methodLink RX7 54 yX3_windClock ∈ lw_ws := ws_mem 363 (by decide +kernel) rfl
theorem wl_X7_57 : Cond.methodLink RX7 57 yX3_endTicks ∈ lw_ws := ws_mem 375 (by decide +kernel) rfl
theorem wl_X7_60 : Cond.methodLink RX7 60 yX3_addPassenger ∈ lw_ws := ws_mem 403 (by decide +kernel) rfl
theorem wl_X7_63 : Cond.methodLink RX7 63 yX3_addGroup ∈ lw_ws := ws_mem 411 (by decide +kernel) rfl
theorem wl_X7_66 : Cond.methodLink RX7 66 yX3_joinGroup ∈ lw_ws := ws_mem 424 (by decide +kernel) rfl
theorem wl_X7_70 : Cond.methodLink RX7 70 yX3_leaveGroup ∈ lw_ws := ws_mem 445 (by decide +kernel) rfl
theorem wl_X7_73 : Cond.methodLink RX7 73 yX3_clockAt ∈ lw_ws := ws_mem 453 (by decide +kernel) rfl
theorem wl_X7_78 : Cond.methodLink RX7 78 yX0_tell ∈ lw_ws := ws_mem 455 (by decide +kernel) rfl
theorem wl_X7_89 : Cond.methodLink RX7 89 yX1_meanOf ∈ lw_ws := ws_mem 469 (by decide +kernel) rfl
theorem wl_X7_95 : Cond.methodLink RX7 95 yX7_bitsOf ∈ lw_ws := ws_mem 473 (by decide +kernel) rfl
theorem wl_X0_3 : Cond.methodLink RX0 3 objectInit ∈ lw_ws := ws_mem 75 (by decide +kernel) rfl
theorem wl_X0_47 : Cond.methodLink RX0 47 yX1_empty ∈ lw_ws := ws_mem 323 (by decide +kernel) rfl
theorem wl_X0_50 : Cond.methodLink RX0 50 yX0_fillRound ∈ lw_ws := ws_mem 327 (by decide +kernel) rfl
theorem wl_X0_53 : Cond.methodLink RX0 53 yX1_add ∈ lw_ws := ws_mem 331 (by decide +kernel) rfl
theorem wl_X0_57 : Cond.methodLink RX0 57 arraycopyName ∈ lw_ws := ws_mem 290 (by decide +kernel) rfl
theorem wl_X0_63 : Cond.methodLink RX0 63 yX1_copyFrom ∈ lw_ws := ws_mem 293 (by decide +kernel) rfl
theorem wl_X0_70 : Cond.methodLink RX0 70 yX0_age ∈ lw_ws := ws_mem 459 (by decide +kernel) rfl
theorem wl_X1_1 : Cond.methodLink RX1 1 objectInit ∈ lw_ws := ws_mem 81 (by decide +kernel) rfl
theorem wl_X2_1 : Cond.methodLink RX2 1 objectInit ∈ lw_ws := ws_mem 150 (by decide +kernel) rfl
theorem wl_X2_22 : Cond.methodLink RX2 22 yJ6_bitCount_0f7a4 ∈ lw_ws := ws_mem 392 (by decide +kernel) rfl
theorem wl_X3_100 : Cond.methodLink RX3 100 yX2_passTick ∈ lw_ws := ws_mem 388 (by decide +kernel) rfl
theorem wl_X3_102 : Cond.methodLink RX3 102 yJ6_bitCount_0f7a4 ∈ lw_ws := ws_mem 398 (by decide +kernel) rfl
theorem wl_X3_120 : Cond.methodLink RX3 120 yX2_set ∈ lw_ws := ws_mem 416 (by decide +kernel) rfl
theorem wl_X3_122 : Cond.methodLink RX3 122 yX3_groupAt ∈ lw_ws := ws_mem 428 (by decide +kernel) rfl
theorem wl_X3_127 : Cond.methodLink RX3 127 yX2_has ∈ lw_ws := ws_mem 432 (by decide +kernel) rfl
theorem wl_X3_131 : Cond.methodLink RX3 131 yX2_size ∈ lw_ws := ws_mem 437 (by decide +kernel) rfl
theorem wl_X3_138 : Cond.methodLink RX3 138 yX0_tell ∈ lw_ws := ws_mem 494 (by decide +kernel) rfl
theorem wl_X3_141 : Cond.methodLink RX3 141 yX3_clocksAhead ∈ lw_ws := ws_mem 503 (by decide +kernel) rfl
theorem wl_X3_145 : Cond.methodLink RX3 145 yX1_meanOf ∈ lw_ws := ws_mem 527 (by decide +kernel) rfl
theorem wl_X3_149 : Cond.methodLink RX3 149 yX0_age ∈ lw_ws := ws_mem 540 (by decide +kernel) rfl
theorem wl_X3_152 : Cond.methodLink RX3 152 yJ9_max_7cf53 ∈ lw_ws := ws_mem 541 (by decide +kernel) rfl
theorem wl_X3_3 : Cond.methodLink RX3 3 objectInit ∈ lw_ws := ws_mem 66 (by decide +kernel) rfl
theorem wl_X3_32 : Cond.methodLink RX3 32 yX0_copyFrom ∈ lw_ws := ws_mem 286 (by decide +kernel) rfl
theorem wl_X3_39 : Cond.methodLink RX3 39 yX2_copyFrom ∈ lw_ws := ws_mem 297 (by decide +kernel) rfl
theorem wl_X3_51 : Cond.methodLink RX3 51 yX0_set ∈ lw_ws := ws_mem 319 (by decide +kernel) rfl
theorem wl_X3_55 : Cond.methodLink RX3 55 yX3_beginGap ∈ lw_ws := ws_mem 335 (by decide +kernel) rfl
theorem wl_X3_58 : Cond.methodLink RX3 58 yX3_clockAt ∈ lw_ws := ws_mem 367 (by decide +kernel) rfl
theorem wl_X3_80 : Cond.methodLink RX3 80 yX3_draw ∈ lw_ws := ws_mem 339 (by decide +kernel) rfl
theorem wl_X3_84 : Cond.methodLink RX3 84 yX0_placeInTurn ∈ lw_ws := ws_mem 343 (by decide +kernel) rfl
theorem wl_X3_88 : Cond.methodLink RX3 88 yX0_beginAt ∈ lw_ws := ws_mem 347 (by decide +kernel) rfl
theorem wl_X3_93 : Cond.methodLink RX3 93 yX3_endTick ∈ lw_ws := ws_mem 380 (by decide +kernel) rfl
theorem wl_X3_96 : Cond.methodLink RX3 96 yX0_passTick ∈ lw_ws := ws_mem 384 (by decide +kernel) rfl
theorem wl_X4_17 : Cond.methodLink RX4 17 yX3_init ∈ lw_ws := ws_mem 201 (by decide +kernel) rfl
theorem wl_X4_22 : Cond.methodLink RX4 22 yX3_copyFrom ∈ lw_ws := ws_mem 282 (by decide +kernel) rfl
theorem wl_X4_3 : Cond.methodLink RX4 3 objectInit ∈ lw_ws := ws_mem 198 (by decide +kernel) rfl
theorem wl_X5_19 : Cond.methodLink RX5 19 yX3_copyFrom ∈ lw_ws := ws_mem 574 (by decide +kernel) rfl
theorem wl_X5_3 : Cond.methodLink RX5 3 objectInit ∈ lw_ws := ws_mem 231 (by decide +kernel) rfl
theorem wl_X5_43 : Cond.methodLink RX5 43 yX5_readOrder ∈ lw_ws := ws_mem 575 (by decide +kernel) rfl
theorem wl_X5_47 : Cond.methodLink RX5 47 yX5_setFault ∈ lw_ws := ws_mem 593 (by decide +kernel) rfl
theorem wl_X5_51 : Cond.methodLink RX5 51 yX5_obey ∈ lw_ws := ws_mem 597 (by decide +kernel) rfl
theorem wl_X5_58 : Cond.methodLink RX5 58 yX6_signAt ∈ lw_ws := ws_mem 579 (by decide +kernel) rfl
theorem wl_X5_62 : Cond.methodLink RX5 62 yX5_numbersBehind ∈ lw_ws := ws_mem 583 (by decide +kernel) rfl
theorem wl_X5_66 : Cond.methodLink RX5 66 yX5_readNumber ∈ lw_ws := ws_mem 586 (by decide +kernel) rfl
theorem wl_X5_70 : Cond.methodLink RX5 70 yX5_isDigit ∈ lw_ws := ws_mem 590 (by decide +kernel) rfl
theorem wl_X5_74 : Cond.methodLink RX5 74 yX3_addClock ∈ lw_ws := ws_mem 601 (by decide +kernel) rfl
theorem wl_X5_78 : Cond.methodLink RX5 78 yX3_endTicks ∈ lw_ws := ws_mem 602 (by decide +kernel) rfl
theorem wl_X5_82 : Cond.methodLink RX5 82 yX3_addPassenger ∈ lw_ws := ws_mem 603 (by decide +kernel) rfl
theorem wl_X5_85 : Cond.methodLink RX5 85 yX3_windClock ∈ lw_ws := ws_mem 604 (by decide +kernel) rfl
theorem wl_X5_88 : Cond.methodLink RX5 88 yX3_joinGroup ∈ lw_ws := ws_mem 605 (by decide +kernel) rfl
theorem wl_X6_3 : Cond.methodLink RX6 3 objectInit ∈ lw_ws := ws_mem 215 (by decide +kernel) rfl
theorem wl_L_12 : Cond.methodLink RL 12 yX8_init ∈ lw_ws := ws_mem 612 (by decide +kernel) rfl
theorem wl_L_13 : Cond.methodLink RL 13 yX7_clock ∈ lw_ws := ws_mem 274 (by decide +kernel) rfl
theorem wl_L_17 : Cond.methodLink RL 17 yX8_clock ∈ lw_ws := ws_mem 662 (by decide +kernel) rfl
theorem wl_L_18 : Cond.methodLink RL 18 yX7_wind ∈ lw_ws := ws_mem 359 (by decide +kernel) rfl
theorem wl_L_22 : Cond.methodLink RL 22 yX8_wind ∈ lw_ws := ws_mem 702 (by decide +kernel) rfl
theorem wl_L_23 : Cond.methodLink RL 23 yX7_tick ∈ lw_ws := ws_mem 371 (by decide +kernel) rfl
theorem wl_L_26 : Cond.methodLink RL 26 yX8_tick ∈ lw_ws := ws_mem 714 (by decide +kernel) rfl
theorem wl_L_27 : Cond.methodLink RL 27 yX7_passenger ∈ lw_ws := ws_mem 399 (by decide +kernel) rfl
theorem wl_L_30 : Cond.methodLink RL 30 yX8_passenger ∈ lw_ws := ws_mem 747 (by decide +kernel) rfl
theorem wl_L_31 : Cond.methodLink RL 31 yX7_group ∈ lw_ws := ws_mem 407 (by decide +kernel) rfl
theorem wl_L_34 : Cond.methodLink RL 34 yX8_group ∈ lw_ws := ws_mem 751 (by decide +kernel) rfl
theorem wl_L_35 : Cond.methodLink RL 35 yX7_join ∈ lw_ws := ws_mem 420 (by decide +kernel) rfl
theorem wl_L_39 : Cond.methodLink RL 39 yX8_join ∈ lw_ws := ws_mem 755 (by decide +kernel) rfl
theorem wl_L_40 : Cond.methodLink RL 40 yX7_leave ∈ lw_ws := ws_mem 441 (by decide +kernel) rfl
theorem wl_L_43 : Cond.methodLink RL 43 yX8_leave ∈ lw_ws := ws_mem 768 (by decide +kernel) rfl
theorem wl_L_44 : Cond.methodLink RL 44 yX7_clockOf ∈ lw_ws := ws_mem 449 (by decide +kernel) rfl
theorem wl_L_47 : Cond.methodLink RL 47 yX8_clockOf ∈ lw_ws := ws_mem 772 (by decide +kernel) rfl
theorem wl_L_48 : Cond.methodLink RL 48 yX7_mean ∈ lw_ws := ws_mem 464 (by decide +kernel) rfl
theorem wl_L_52 : Cond.methodLink RL 52 yX8_mean ∈ lw_ws := ws_mem 777 (by decide +kernel) rfl
theorem wl_L_53 : Cond.methodLink RL 53 yX7_groupOf ∈ lw_ws := ws_mem 480 (by decide +kernel) rfl
theorem wl_L_56 : Cond.methodLink RL 56 yX8_groupOf ∈ lw_ws := ws_mem 804 (by decide +kernel) rfl
theorem wl_L_57 : Cond.methodLink RL 57 yX7_next ∈ lw_ws := ws_mem 495 (by decide +kernel) rfl
theorem wl_L_60 : Cond.methodLink RL 60 yX8_next ∈ lw_ws := ws_mem 816 (by decide +kernel) rfl
theorem wl_L_61 : Cond.methodLink RL 61 yX7_would ∈ lw_ws := ws_mem 507 (by decide +kernel) rfl
theorem wl_L_65 : Cond.methodLink RL 65 yX8_would ∈ lw_ws := ws_mem 820 (by decide +kernel) rfl
theorem wl_L_66 : Cond.methodLink RL 66 yX7_meets ∈ lw_ws := ws_mem 514 (by decide +kernel) rfl
theorem wl_L_69 : Cond.methodLink RL 69 yX8_meets ∈ lw_ws := ws_mem 827 (by decide +kernel) rfl
theorem wl_L_70 : Cond.methodLink RL 70 yX7_longer ∈ lw_ws := ws_mem 519 (by decide +kernel) rfl
theorem wl_L_74 : Cond.methodLink RL 74 yX8_longer ∈ lw_ws := ws_mem 831 (by decide +kernel) rfl
theorem wl_L_75 : Cond.methodLink RL 75 yX7_count ∈ lw_ws := ws_mem 528 (by decide +kernel) rfl
theorem wl_L_78 : Cond.methodLink RL 78 yX8_count ∈ lw_ws := ws_mem 835 (by decide +kernel) rfl
theorem wl_L_79 : Cond.methodLink RL 79 yX7_undo ∈ lw_ws := ws_mem 544 (by decide +kernel) rfl
theorem wl_L_83 : Cond.methodLink RL 83 yX8_undo ∈ lw_ws := ws_mem 847 (by decide +kernel) rfl
theorem wl_L_84 : Cond.methodLink RL 84 yX7_type ∈ lw_ws := ws_mem 553 (by decide +kernel) rfl
theorem wl_L_87 : Cond.methodLink RL 87 yX8_type ∈ lw_ws := ws_mem 851 (by decide +kernel) rfl
theorem wl_L_88 : Cond.methodLink RL 88 yX7_clearText ∈ lw_ws := ws_mem 562 (by decide +kernel) rfl
theorem wl_L_9 : Cond.methodLink RL 9 yX7_init ∈ lw_ws := ws_mem 55 (by decide +kernel) rfl
theorem wl_L_91 : Cond.methodLink RL 91 yX8_clearText ∈ lw_ws := ws_mem 855 (by decide +kernel) rfl
theorem wl_L_92 : Cond.methodLink RL 92 yX7_fault ∈ lw_ws := ws_mem 566 (by decide +kernel) rfl
theorem wl_L_95 : Cond.methodLink RL 95 yX8_fault ∈ lw_ws := ws_mem 859 (by decide +kernel) rfl
theorem wl_L_96 : Cond.methodLink RL 96 yX7_play ∈ lw_ws := ws_mem 606 (by decide +kernel) rfl
theorem wl_L_99 : Cond.methodLink RL 99 yX8_play ∈ lw_ws := ws_mem 895 (by decide +kernel) rfl
theorem wl_X8_1 : Cond.methodLink RX8 1 objectInit ∈ lw_ws := ws_mem 615 (by decide +kernel) rfl
theorem wl_X8_101 : Cond.methodLink RX8 101 yX8_isGroup ∈ lw_ws := ws_mem 759 (by decide +kernel) rfl
theorem wl_X8_104 : Cond.methodLink RX8 104 yX8_isIn ∈ lw_ws := ws_mem 763 (by decide +kernel) rfl
theorem wl_X8_110 : Cond.methodLink RX8 110 yX8_ofLaw ∈ lw_ws := ws_mem 786 (by decide +kernel) rfl
theorem wl_X8_113 : Cond.methodLink RX8 113 yX8_meanOf ∈ lw_ws := ws_mem 790 (by decide +kernel) rfl
theorem wl_X8_119 : Cond.methodLink RX8 119 yX8_lawMean ∈ lw_ws := ws_mem 782 (by decide +kernel) rfl
theorem wl_X8_123 : Cond.methodLink RX8 123 yJxe99ae_doubleToLongBits_ccdee ∈ lw_ws := ws_mem 793 (by decide +kernel) rfl
theorem wl_X8_131 : Cond.methodLink RX8 131 yX8_leastRest ∈ lw_ws := ws_mem 808 (by decide +kernel) rfl
theorem wl_X8_134 : Cond.methodLink RX8 134 yX8_sumIn ∈ lw_ws := ws_mem 812 (by decide +kernel) rfl
theorem wl_X8_137 : Cond.methodLink RX8 137 yX8_copies ∈ lw_ws := ws_mem 824 (by decide +kernel) rfl
theorem wl_X8_141 : Cond.methodLink RX8 141 yX8_ending ∈ lw_ws := ws_mem 839 (by decide +kernel) rfl
theorem wl_X8_145 : Cond.methodLink RX8 145 yX8_oldest ∈ lw_ws := ws_mem 843 (by decide +kernel) rfl
theorem wl_X8_154 : Cond.methodLink RX8 154 yX8_isAt ∈ lw_ws := ws_mem 871 (by decide +kernel) rfl
theorem wl_X8_160 : Cond.methodLink RX8 160 yX8_numbersOf ∈ lw_ws := ws_mem 875 (by decide +kernel) rfl
theorem wl_X8_163 : Cond.methodLink RX8 163 yX8_numbered ∈ lw_ws := ws_mem 878 (by decide +kernel) rfl
theorem wl_X8_166 : Cond.methodLink RX8 166 yX8_sign ∈ lw_ws := ws_mem 882 (by decide +kernel) rfl
theorem wl_X8_169 : Cond.methodLink RX8 169 yX8_clock ∈ lw_ws := ws_mem 890 (by decide +kernel) rfl
theorem wl_X8_173 : Cond.methodLink RX8 173 yX8_tick ∈ lw_ws := ws_mem 891 (by decide +kernel) rfl
theorem wl_X8_176 : Cond.methodLink RX8 176 yX8_passenger ∈ lw_ws := ws_mem 892 (by decide +kernel) rfl
theorem wl_X8_179 : Cond.methodLink RX8 179 yX8_wind ∈ lw_ws := ws_mem 893 (by decide +kernel) rfl
theorem wl_X8_182 : Cond.methodLink RX8 182 yX8_join ∈ lw_ws := ws_mem 894 (by decide +kernel) rfl
theorem wl_X8_191 : Cond.methodLink RX8 191 yX8_reads ∈ lw_ws := ws_mem 867 (by decide +kernel) rfl
theorem wl_X8_195 : Cond.methodLink RX8 195 yX8_calls ∈ lw_ws := ws_mem 886 (by decide +kernel) rfl
theorem wl_X8_204 : Cond.methodLink RX8 204 yX8_plays ∈ lw_ws := ws_mem 863 (by decide +kernel) rfl
theorem wl_X8_36 : Cond.methodLink RX8 36 yX8_of ∈ lw_ws := ws_mem 686 (by decide +kernel) rfl
theorem wl_X8_40 : Cond.methodLink RX8 40 yX8_places ∈ lw_ws := ws_mem 690 (by decide +kernel) rfl
theorem wl_X8_44 : Cond.methodLink RX8 44 yX8_draw ∈ lw_ws := ws_mem 694 (by decide +kernel) rfl
theorem wl_X8_47 : Cond.methodLink RX8 47 yX8_sets ∈ lw_ws := ws_mem 678 (by decide +kernel) rfl
theorem wl_X8_51 : Cond.methodLink RX8 51 yX8_gapAt ∈ lw_ws := ws_mem 698 (by decide +kernel) rfl
theorem wl_X8_54 : Cond.methodLink RX8 54 yX8_adds ∈ lw_ws := ws_mem 710 (by decide +kernel) rfl
theorem wl_X8_57 : Cond.methodLink RX8 57 yX8_begins ∈ lw_ws := ws_mem 682 (by decide +kernel) rfl
theorem wl_X8_61 : Cond.methodLink RX8 61 yX8_rest ∈ lw_ws := ws_mem 731 (by decide +kernel) rfl
theorem wl_X8_64 : Cond.methodLink RX8 64 yX8_tells ∈ lw_ws := ws_mem 735 (by decide +kernel) rfl
theorem wl_X8_68 : Cond.methodLink RX8 68 yX8_ofGroup ∈ lw_ws := ws_mem 739 (by decide +kernel) rfl
theorem wl_X8_71 : Cond.methodLink RX8 71 yX8_ones ∈ lw_ws := ws_mem 743 (by decide +kernel) rfl
theorem wl_X8_74 : Cond.methodLink RX8 74 yX8_sum ∈ lw_ws := ws_mem 723 (by decide +kernel) rfl
theorem wl_X8_77 : Cond.methodLink RX8 77 yX8_ends ∈ lw_ws := ws_mem 727 (by decide +kernel) rfl
theorem wl_X8_80 : Cond.methodLink RX8 80 yX8_in ∈ lw_ws := ws_mem 669 (by decide +kernel) rfl
theorem wl_X8_84 : Cond.methodLink RX8 84 yX8_isLaw ∈ lw_ws := ws_mem 666 (by decide +kernel) rfl
theorem wl_X8_90 : Cond.methodLink RX8 90 yX8_changes ∈ lw_ws := ws_mem 674 (by decide +kernel) rfl
theorem wl_X8_93 : Cond.methodLink RX8 93 yX8_isClock ∈ lw_ws := ws_mem 706 (by decide +kernel) rfl
theorem wl_X8_98 : Cond.methodLink RX8 98 yX8_endsFor ∈ lw_ws := ws_mem 719 (by decide +kernel) rfl
theorem wl_Jxe99ae_122 : Cond.methodLink RJxe99ae 122 yJxe99ae_isNaN_b9ae7 ∈ lw_ws := ws_mem 796 (by decide +kernel) rfl
theorem wl_Jxe99ae_134 : Cond.methodLink RJxe99ae 134 ⟨"java/lang/Double", "doubleToRawLongBits", "(D)J"⟩ ∈ lw_ws := ws_mem 799 (by decide +kernel) rfl
theorem wf_X7_102 : Cond.fieldLinkNest RX7 102 RX1 "many" "I" "RenewalClocks" ∈ nestW := List.mem_of_getElem? (i := 4) rfl
theorem wf_X7_112 : Cond.fieldLinkNest RX7 112 RX2 "law" "I" "RenewalClocks" ∈ nestW := List.mem_of_getElem? (i := 19) rfl
theorem wf_X7_117 : Cond.fieldLinkNest RX7 117 RX2 "members" "I" "RenewalClocks" ∈ nestW := List.mem_of_getElem? (i := 21) rfl
theorem wf_X7_12 : Cond.fieldLink RX7 12 RX7 "hall" "LRenewalClocks$Hall;" ∈ lw_ws := ws_mem 258 (by decide +kernel) rfl
theorem wf_X7_123 : Cond.fieldLinkNest RX7 123 RX2 "told" "I" "RenewalClocks" ∈ nestW := List.mem_of_getElem? (i := 23) rfl
theorem wf_X7_125 : Cond.fieldLinkNest RX7 125 RX2 "met" "I" "RenewalClocks" ∈ nestW := List.mem_of_getElem? (i := 24) rfl
theorem wf_X7_144 : Cond.fieldLinkNest RX7 144 RX0 "rest" "I" "RenewalClocks" ∈ nestW := List.mem_of_getElem? (i := 11) rfl
theorem wf_X7_147 : Cond.fieldLinkNest RX7 147 RX0 "gap" "I" "RenewalClocks" ∈ nestW := List.mem_of_getElem? (i := 9) rfl
theorem wf_X7_155 : Cond.fieldLinkNest RX7 155 RX3 "clockCount" "I" "RenewalClocks" ∈ nestW := List.mem_of_getElem? (i := 25) rfl
theorem wf_X7_158 : Cond.fieldLinkNest RX7 158 RX3 "groupCount" "I" "RenewalClocks" ∈ nestW := List.mem_of_getElem? (i := 26) rfl
theorem wf_X7_16 : Cond.fieldLink RX7 16 RX7 "trial" "LRenewalClocks$Hall;" ∈ lw_ws := ws_mem 259 (by decide +kernel) rfl
theorem wf_X7_161 : Cond.fieldLinkNest RX7 161 RX3 "now" "I" "RenewalClocks" ∈ nestW := List.mem_of_getElem? (i := 27) rfl
theorem wf_X7_164 : Cond.fieldLinkNest RX7 164 RX3 "drawn" "I" "RenewalClocks" ∈ nestW := List.mem_of_getElem? (i := 28) rfl
theorem wf_X7_173 : Cond.fieldLinkNest RX7 173 RX4 "kept" "I" "RenewalClocks" ∈ nestW := List.mem_of_getElem? (i := 29) rfl
theorem wf_X7_176 : Cond.fieldLinkNest RX7 176 RX6 "length" "I" "RenewalClocks" ∈ nestW := List.mem_of_getElem? (i := 32) rfl
theorem wf_X7_193 : Cond.fieldLinkNest RX7 193 RX5 "reason" "I" "RenewalClocks" ∈ nestW := List.mem_of_getElem? (i := 35) rfl
theorem wf_X7_196 : Cond.fieldLinkNest RX7 196 RX5 "start" "I" "RenewalClocks" ∈ nestW := List.mem_of_getElem? (i := 33) rfl
theorem wf_X7_199 : Cond.fieldLinkNest RX7 199 RX5 "cause" "I" "RenewalClocks" ∈ nestW := List.mem_of_getElem? (i := 36) rfl
theorem wf_X7_202 : Cond.fieldLinkNest RX7 202 RX5 "many" "I" "RenewalClocks" ∈ nestW := List.mem_of_getElem? (i := 34) rfl
theorem wf_X7_22 : Cond.fieldLink RX7 22 RX7 "history" "LRenewalClocks$History;" ∈ lw_ws := ws_mem 260 (by decide +kernel) rfl
theorem wf_X7_29 : Cond.fieldLink RX7 29 RX7 "text" "LRenewalClocks$Text;" ∈ lw_ws := ws_mem 261 (by decide +kernel) rfl
theorem wf_X7_38 : Cond.fieldLink RX7 38 RX7 "orders" "LRenewalClocks$Orders;" ∈ lw_ws := ws_mem 262 (by decide +kernel) rfl
theorem wf_X7_85 : Cond.fieldLinkNest RX7 85 RX0 "round" "LRenewalClocks$Gaps;" "RenewalClocks" ∈ nestW := List.mem_of_getElem? (i := 17) rfl
theorem wf_X7_99 : Cond.fieldLinkNest RX7 99 RX0 "told" "LRenewalClocks$Gaps;" "RenewalClocks" ∈ nestW := List.mem_of_getElem? (i := 15) rfl
theorem wf_X0_18 : Cond.fieldLink RX0 18 RX0 "told" "LRenewalClocks$Gaps;" ∈ lw_ws := ws_mem 120 (by decide +kernel) rfl
theorem wf_X0_22 : Cond.fieldLink RX0 22 RX0 "round" "LRenewalClocks$Gaps;" ∈ lw_ws := ws_mem 122 (by decide +kernel) rfl
theorem wf_X0_25 : Cond.fieldLink RX0 25 RX0 "law" "I" ∈ lw_ws := ws_mem 104 (by decide +kernel) rfl
theorem wf_X0_29 : Cond.fieldLink RX0 29 RX0 "place" "I" ∈ lw_ws := ws_mem 107 (by decide +kernel) rfl
theorem wf_X0_32 : Cond.fieldLink RX0 32 RX0 "gap" "I" ∈ lw_ws := ws_mem 108 (by decide +kernel) rfl
theorem wf_X0_35 : Cond.fieldLink RX0 35 RX0 "rest" "I" ∈ lw_ws := ws_mem 111 (by decide +kernel) rfl
theorem wf_X0_38 : Cond.fieldLink RX0 38 RX0 "passengers" "I" ∈ lw_ws := ws_mem 114 (by decide +kernel) rfl
theorem wf_X0_41 : Cond.fieldLink RX0 41 RX0 "waited" "I" ∈ lw_ws := ws_mem 116 (by decide +kernel) rfl
theorem wf_X0_44 : Cond.fieldLink RX0 44 RX0 "wound" "I" ∈ lw_ws := ws_mem 118 (by decide +kernel) rfl
theorem wf_X0_67 : Cond.fieldLinkNest RX0 67 RX1 "many" "I" "RenewalClocks" ∈ nestW := List.mem_of_getElem? (i := 2) rfl
theorem wf_X0_74 : Cond.fieldLinkNest RX0 74 RX1 "sum" "I" "RenewalClocks" ∈ nestW := List.mem_of_getElem? (i := 5) rfl
theorem wf_X0_78 : Cond.fieldLinkNest RX0 78 RX1 "longest" "I" "RenewalClocks" ∈ nestW := List.mem_of_getElem? (i := 6) rfl
theorem wf_X0_9 : Cond.fieldLink RX0 9 RX0 "numbers" "[I" ∈ lw_ws := ws_mem 106 (by decide +kernel) rfl
theorem wf_X1_13 : Cond.fieldLink RX1 13 RX1 "sum" "I" ∈ lw_ws := ws_mem 86 (by decide +kernel) rfl
theorem wf_X1_16 : Cond.fieldLink RX1 16 RX1 "squares" "I" ∈ lw_ws := ws_mem 88 (by decide +kernel) rfl
theorem wf_X1_19 : Cond.fieldLink RX1 19 RX1 "waits" "I" ∈ lw_ws := ws_mem 89 (by decide +kernel) rfl
theorem wf_X1_22 : Cond.fieldLink RX1 22 RX1 "longest" "I" ∈ lw_ws := ws_mem 90 (by decide +kernel) rfl
theorem wf_X1_7 : Cond.fieldLink RX1 7 RX1 "many" "I" ∈ lw_ws := ws_mem 82 (by decide +kernel) rfl
theorem wf_X2_13 : Cond.fieldLink RX2 13 RX2 "members" "I" ∈ lw_ws := ws_mem 154 (by decide +kernel) rfl
theorem wf_X2_16 : Cond.fieldLink RX2 16 RX2 "told" "I" ∈ lw_ws := ws_mem 157 (by decide +kernel) rfl
theorem wf_X2_19 : Cond.fieldLink RX2 19 RX2 "met" "I" ∈ lw_ws := ws_mem 159 (by decide +kernel) rfl
theorem wf_X2_7 : Cond.fieldLink RX2 7 RX2 "law" "I" ∈ lw_ws := ws_mem 151 (by decide +kernel) rfl
theorem wf_X3_107 : Cond.fieldLinkNest RX3 107 RX0 "passengers" "I" "RenewalClocks" ∈ nestW := List.mem_of_getElem? (i := 12) rfl
theorem wf_X3_11 : Cond.fieldLink RX3 11 RX3 "clocks" "[LRenewalClocks$Clock;" ∈ lw_ws := ws_mem 170 (by decide +kernel) rfl
theorem wf_X3_110 : Cond.fieldLinkNest RX3 110 RX0 "waited" "I" "RenewalClocks" ∈ nestW := List.mem_of_getElem? (i := 13) rfl
theorem wf_X3_113 : Cond.fieldLinkNest RX3 113 RX0 "rest" "I" "RenewalClocks" ∈ nestW := List.mem_of_getElem? (i := 10) rfl
theorem wf_X3_126 : Cond.fieldLinkNest RX3 126 RX2 "law" "I" "RenewalClocks" ∈ nestW := List.mem_of_getElem? (i := 20) rfl
theorem wf_X3_134 : Cond.fieldLinkNest RX3 134 RX2 "members" "I" "RenewalClocks" ∈ nestW := List.mem_of_getElem? (i := 22) rfl
theorem wf_X3_19 : Cond.fieldLink RX3 19 RX3 "groups" "[LRenewalClocks$Group;" ∈ lw_ws := ws_mem 173 (by decide +kernel) rfl
theorem wf_X3_23 : Cond.fieldLink RX3 23 RX3 "drawn" "I" ∈ lw_ws := ws_mem 178 (by decide +kernel) rfl
theorem wf_X3_29 : Cond.fieldLink RX3 29 RX3 "clockCount" "I" ∈ lw_ws := ws_mem 171 (by decide +kernel) rfl
theorem wf_X3_36 : Cond.fieldLink RX3 36 RX3 "groupCount" "I" ∈ lw_ws := ws_mem 174 (by decide +kernel) rfl
theorem wf_X3_42 : Cond.fieldLink RX3 42 RX3 "now" "I" ∈ lw_ws := ws_mem 176 (by decide +kernel) rfl
theorem wf_X3_62 : Cond.fieldLinkNest RX3 62 RX0 "wound" "I" "RenewalClocks" ∈ nestW := List.mem_of_getElem? (i := 14) rfl
theorem wf_X3_65 : Cond.fieldLinkNest RX3 65 RX0 "gap" "I" "RenewalClocks" ∈ nestW := List.mem_of_getElem? (i := 8) rfl
theorem wf_X3_68 : Cond.fieldLinkNest RX3 68 RX0 "law" "I" "RenewalClocks" ∈ nestW := List.mem_of_getElem? (i := 7) rfl
theorem wf_X3_71 : Cond.fieldLinkNest RX3 71 RX0 "round" "LRenewalClocks$Gaps;" "RenewalClocks" ∈ nestW := List.mem_of_getElem? (i := 16) rfl
theorem wf_X3_75 : Cond.fieldLinkNest RX3 75 RX1 "many" "I" "RenewalClocks" ∈ nestW := List.mem_of_getElem? (i := 3) rfl
theorem wf_X4_11 : Cond.fieldLink RX4 11 RX4 "slots" "[LRenewalClocks$Hall;" ∈ lw_ws := ws_mem 202 (by decide +kernel) rfl
theorem wf_X4_18 : Cond.fieldLink RX4 18 RX4 "kept" "I" ∈ lw_ws := ws_mem 203 (by decide +kernel) rfl
theorem wf_X5_15 : Cond.fieldLink RX5 15 RX5 "text" "LRenewalClocks$Text;" ∈ lw_ws := ws_mem 232 (by decide +kernel) rfl
theorem wf_X5_25 : Cond.fieldLink RX5 25 RX5 "at" "I" ∈ lw_ws := ws_mem 236 (by decide +kernel) rfl
theorem wf_X5_29 : Cond.fieldLink RX5 29 RX5 "many" "I" ∈ lw_ws := ws_mem 237 (by decide +kernel) rfl
theorem wf_X5_32 : Cond.fieldLink RX5 32 RX5 "reason" "I" ∈ lw_ws := ws_mem 239 (by decide +kernel) rfl
theorem wf_X5_35 : Cond.fieldLinkNest RX5 35 RX6 "length" "I" "RenewalClocks" ∈ nestW := List.mem_of_getElem? (i := 31) rfl
theorem wf_X5_40 : Cond.fieldLink RX5 40 RX5 "start" "I" ∈ lw_ws := ws_mem 234 (by decide +kernel) rfl
theorem wf_X5_55 : Cond.fieldLink RX5 55 RX5 "cause" "I" ∈ lw_ws := ws_mem 241 (by decide +kernel) rfl
theorem wf_X5_9 : Cond.fieldLink RX5 9 RX5 "numbers" "[I" ∈ lw_ws := ws_mem 233 (by decide +kernel) rfl
theorem wf_X6_15 : Cond.fieldLink RX6 15 RX6 "length" "I" ∈ lw_ws := ws_mem 217 (by decide +kernel) rfl
theorem wf_X6_9 : Cond.fieldLink RX6 9 RX6 "signs" "[C" ∈ lw_ws := ws_mem 216 (by decide +kernel) rfl
theorem wf_X8_13 : Cond.fieldLink RX8 13 RX8 "past" "[I" ∈ lw_ws := ws_mem 617 (by decide +kernel) rfl
theorem wf_X8_148 : Cond.fieldLink RX8 148 RX8 "typed" "I" ∈ lw_ws := ws_mem 623 (by decide +kernel) rfl
theorem wf_X8_151 : Cond.fieldLink RX8 151 RX8 "spot" "I" ∈ lw_ws := ws_mem 624 (by decide +kernel) rfl
theorem wf_X8_157 : Cond.fieldLink RX8 157 RX8 "order" "I" ∈ lw_ws := ws_mem 629 (by decide +kernel) rfl
theorem wf_X8_16 : Cond.fieldLink RX8 16 RX8 "held" "[I" ∈ lw_ws := ws_mem 618 (by decide +kernel) rfl
theorem wf_X8_185 : Cond.fieldLink RX8 185 RX8 "from" "I" ∈ lw_ws := ws_mem 625 (by decide +kernel) rfl
theorem wf_X8_188 : Cond.fieldLink RX8 188 RX8 "orders" "I" ∈ lw_ws := ws_mem 628 (by decide +kernel) rfl
theorem wf_X8_19 : Cond.fieldLink RX8 19 RX8 "tried" "[I" ∈ lw_ws := ws_mem 619 (by decide +kernel) rfl
theorem wf_X8_198 : Cond.fieldLink RX8 198 RX8 "reason" "I" ∈ lw_ws := ws_mem 626 (by decide +kernel) rfl
theorem wf_X8_201 : Cond.fieldLink RX8 201 RX8 "cause" "I" ∈ lw_ws := ws_mem 627 (by decide +kernel) rfl
theorem wf_X8_22 : Cond.fieldLink RX8 22 RX8 "text" "[I" ∈ lw_ws := ws_mem 622 (by decide +kernel) rfl
theorem wf_X8_25 : Cond.fieldLink RX8 25 RX8 "numbers" "[I" ∈ lw_ws := ws_mem 630 (by decide +kernel) rfl
theorem wf_X8_28 : Cond.fieldLink RX8 28 RX8 "runs" "Z" ∈ lw_ws := ws_mem 621 (by decide +kernel) rfl
theorem wf_X8_32 : Cond.fieldLink RX8 32 RX8 "pasts" "I" ∈ lw_ws := ws_mem 620 (by decide +kernel) rfl
theorem wf_X8_7 : Cond.fieldLink RX8 7 RX8 "s" "[I" ∈ lw_ws := ws_mem 616 (by decide +kernel) rfl
theorem wk_X7_106 : Cond.constantLong RX7 106 (-1000004) ∈ lw_ws := ws_mem 479 (by decide +kernel) rfl
theorem wk_X7_150 : Cond.constant RX7 150 (-1000004) ∈ lw_ws := ws_mem 518 (by decide +kernel) rfl
theorem wk_X7_183 : Cond.constant RX7 183 (-1000002) ∈ lw_ws := ws_mem 552 (by decide +kernel) rfl
theorem wk_X7_188 : Cond.constant RX7 188 (-1000003) ∈ lw_ws := ws_mem 561 (by decide +kernel) rfl
theorem wk_X7_206 : Cond.constantDouble RX7 206 (4611686018427387904) ∈ lw_ws := ws_mem 476 (by decide +kernel) rfl
theorem wk_X7_208 : Cond.constantDouble RX7 208 (4841369599423283200) ∈ lw_ws := ws_mem 477 (by decide +kernel) rfl
theorem wk_X7_210 : Cond.constantLong RX7 210 (-9223372036854775808) ∈ lw_ws := ws_mem 478 (by decide +kernel) rfl
theorem wk_X7_77 : Cond.constant RX7 77 (-1000001) ∈ lw_ws := ws_mem 454 (by decide +kernel) rfl
theorem wk_X7_83 : Cond.constantLong RX7 83 (-1000001) ∈ lw_ws := ws_mem 468 (by decide +kernel) rfl
theorem wk_X0_77 : Cond.constant RX0 77 (-1000004) ∈ lw_ws := ws_mem 463 (by decide +kernel) rfl
theorem wk_X3_130 : Cond.constant RX3 130 (-1000002) ∈ lw_ws := ws_mem 436 (by decide +kernel) rfl
theorem wk_X3_137 : Cond.constant RX3 137 (-1000004) ∈ lw_ws := ws_mem 489 (by decide +kernel) rfl
theorem wk_X3_49 : Cond.constant RX3 49 (-1000001) ∈ lw_ws := ws_mem 317 (by decide +kernel) rfl
theorem wk_X3_50 : Cond.constant RX3 50 (-1000003) ∈ lw_ws := ws_mem 318 (by decide +kernel) rfl
theorem wk_X3_92 : Cond.constant RX3 92 (99999) ∈ lw_ws := ws_mem 379 (by decide +kernel) rfl
theorem wk_X8_108 : Cond.constant RX8 108 (-1000002) ∈ lw_ws := ws_mem 767 (by decide +kernel) rfl
theorem wk_X8_109 : Cond.constant RX8 109 (-1000004) ∈ lw_ws := ws_mem 776 (by decide +kernel) rfl
theorem wk_X8_117 : Cond.constantLong RX8 117 (-1000001) ∈ lw_ws := ws_mem 781 (by decide +kernel) rfl
theorem wk_X8_129 : Cond.constantLong RX8 129 (-1000004) ∈ lw_ws := ws_mem 803 (by decide +kernel) rfl
theorem wk_X8_88 : Cond.constant RX8 88 (-1000001) ∈ lw_ws := ws_mem 672 (by decide +kernel) rfl
theorem wk_X8_89 : Cond.constant RX8 89 (-1000003) ∈ lw_ws := ws_mem 673 (by decide +kernel) rfl
theorem wk_X8_97 : Cond.constant RX8 97 (99999) ∈ lw_ws := ws_mem 718 (by decide +kernel) rfl
theorem wk_Jxe99ae_137 : Cond.constantLong RJxe99ae 137 (9221120237041090560) ∈ lw_ws := ws_mem 802 (by decide +kernel) rfl
theorem wk_J6_265 : Cond.constant RJ6 265 (1431655765) ∈ lw_ws := ws_mem 395 (by decide +kernel) rfl
theorem wk_J6_266 : Cond.constant RJ6 266 (858993459) ∈ lw_ws := ws_mem 396 (by decide +kernel) rfl
theorem wk_J6_267 : Cond.constant RJ6 267 (252645135) ∈ lw_ws := ws_mem 397 (by decide +kernel) rfl
