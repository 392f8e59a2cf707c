/-! the tables' words by their places: of all that keep (lw_ws), and those between nest mates (nestW) -/
def lw_ws : List Cond := lw_tbl.filter goodWord
theorem ws_mem {w : Cond} (i : Nat) (h : lw_tbl[i]? = some w) (hg : goodWord w = true) : w ∈ lw_ws := List.mem_filter.mpr ⟨List.mem_of_getElem? h, hg⟩
def nestW : List Cond := [Cond.methodLinkNest RX3 27 yX0_init "RenewalClocks", Cond.methodLinkNest RX0 17 yX1_init "RenewalClocks", Cond.fieldLinkNest RX0 67 RX1 "many" "I" "RenewalClocks", Cond.fieldLinkNest RX3 75 RX1 "many" "I" "RenewalClocks", Cond.fieldLinkNest RX0 74 RX1 "sum" "I" "RenewalClocks", Cond.fieldLinkNest RX0 78 RX1 "longest" "I" "RenewalClocks", Cond.fieldLinkNest RX3 68 RX0 "law" "I" "RenewalClocks", Cond.fieldLinkNest RX3 65 RX0 "gap" "I" "RenewalClocks", Cond.fieldLinkNest RX3 113 RX0 "rest" "I" "RenewalClocks", Cond.fieldLinkNest RX3 107 RX0 "passengers" "I" "RenewalClocks", Cond.fieldLinkNest RX3 110 RX0 "waited" "I" "RenewalClocks", Cond.fieldLinkNest RX3 62 RX0 "wound" "I" "RenewalClocks", Cond.fieldLinkNest RX3 71 RX0 "round" "LRenewalClocks$Gaps;" "RenewalClocks", Cond.methodLinkNest RX3 28 yX2_init "RenewalClocks", Cond.fieldLinkNest RX7 112 RX2 "law" "I" "RenewalClocks", Cond.fieldLinkNest RX3 126 RX2 "law" "I" "RenewalClocks", Cond.fieldLinkNest RX7 117 RX2 "members" "I" "RenewalClocks", Cond.fieldLinkNest RX3 134 RX2 "members" "I" "RenewalClocks", Cond.fieldLinkNest RX7 123 RX2 "told" "I" "RenewalClocks", Cond.fieldLinkNest RX7 125 RX2 "met" "I" "RenewalClocks", Cond.fieldLinkNest RX7 155 RX3 "clockCount" "I" "RenewalClocks", Cond.fieldLinkNest RX7 158 RX3 "groupCount" "I" "RenewalClocks", Cond.fieldLinkNest RX7 161 RX3 "now" "I" "RenewalClocks", Cond.fieldLinkNest RX7 164 RX3 "drawn" "I" "RenewalClocks", Cond.fieldLinkNest RX7 173 RX4 "kept" "I" "RenewalClocks", Cond.methodLinkNest RX7 28 yX6_init "RenewalClocks", Cond.fieldLinkNest RX7 176 RX6 "length" "I" "RenewalClocks", Cond.methodLinkNest RX3 45 yX7_isClock "RenewalClocks", Cond.methodLinkNest RX3 116 yX7_isLaw "RenewalClocks"]
theorem nestW_tbl : nestW = [36, 42, 47, 48, 50, 54, 68, 72, 74, 76, 78, 80, 83, 106, 111, 112, 114, 115, 117, 119, 131, 134, 136, 138, 163, 171, 176, 299, 423].filterMap (fun i => lw_tbl[i]?) := by decide +kernel
theorem uin_X0 : ∀ w ∈ u_ws RX0 TX0 10, w ∈ lw_ws := by
  have h1 : u_ws RX0 TX0 10 = [84, 86, 88, 90, 92, 94, 96, 98, 100, 102].filterMap (fun i => lw_tbl[i]?) := by decide +kernel
  have h2 : (u_ws RX0 TX0 10).all goodWord = true := by decide +kernel
  intro w hw
  refine List.mem_filter.mpr ⟨?_, List.all_eq_true.mp h2 w hw⟩
  rw [h1] at hw
  obtain ⟨i, -, hi⟩ := List.mem_filterMap.mp hw
  exact List.mem_of_getElem? hi
theorem uin_X1 : ∀ w ∈ u_ws RX1 TX1 5, w ∈ lw_ws := by
  have h1 : u_ws RX1 TX1 5 = [55, 57, 59, 61, 63].filterMap (fun i => lw_tbl[i]?) := by decide +kernel
  have h2 : (u_ws RX1 TX1 5).all goodWord = true := by decide +kernel
  intro w hw
  refine List.mem_filter.mpr ⟨?_, List.all_eq_true.mp h2 w hw⟩
  rw [h1] at hw
  obtain ⟨i, -, hi⟩ := List.mem_filterMap.mp hw
  exact List.mem_of_getElem? hi
theorem uin_X2 : ∀ w ∈ u_ws RX2 TX2 4, w ∈ lw_ws := by
  have h1 : u_ws RX2 TX2 4 = [120, 122, 124, 126].filterMap (fun i => lw_tbl[i]?) := by decide +kernel
  have h2 : (u_ws RX2 TX2 4).all goodWord = true := by decide +kernel
  intro w hw
  refine List.mem_filter.mpr ⟨?_, List.all_eq_true.mp h2 w hw⟩
  rw [h1] at hw
  obtain ⟨i, -, hi⟩ := List.mem_filterMap.mp hw
  exact List.mem_of_getElem? hi
theorem uin_X3 : ∀ w ∈ u_ws RX3 TX3 6, w ∈ lw_ws := by
  have h1 : u_ws RX3 TX3 6 = [139, 141, 143, 145, 147, 149].filterMap (fun i => lw_tbl[i]?) := by decide +kernel
  have h2 : (u_ws RX3 TX3 6).all goodWord = true := by decide +kernel
  intro w hw
  refine List.mem_filter.mpr ⟨?_, List.all_eq_true.mp h2 w hw⟩
  rw [h1] at hw
  obtain ⟨i, -, hi⟩ := List.mem_filterMap.mp hw
  exact List.mem_of_getElem? hi
theorem uin_X4 : ∀ w ∈ u_ws RX4 TX4 2, w ∈ lw_ws := by
  have h1 : u_ws RX4 TX4 2 = [164, 166].filterMap (fun i => lw_tbl[i]?) := by decide +kernel
  have h2 : (u_ws RX4 TX4 2).all goodWord = true := by decide +kernel
  intro w hw
  refine List.mem_filter.mpr ⟨?_, List.all_eq_true.mp h2 w hw⟩
  rw [h1] at hw
  obtain ⟨i, -, hi⟩ := List.mem_filterMap.mp hw
  exact List.mem_of_getElem? hi
theorem uin_X5 : ∀ w ∈ u_ws RX5 TX5 7, w ∈ lw_ws := by
  have h1 : u_ws RX5 TX5 7 = [191, 193, 195, 197, 199, 201, 203].filterMap (fun i => lw_tbl[i]?) := by decide +kernel
  have h2 : (u_ws RX5 TX5 7).all goodWord = true := by decide +kernel
  intro w hw
  refine List.mem_filter.mpr ⟨?_, List.all_eq_true.mp h2 w hw⟩
  rw [h1] at hw
  obtain ⟨i, -, hi⟩ := List.mem_filterMap.mp hw
  exact List.mem_of_getElem? hi
theorem uin_X6 : ∀ w ∈ u_ws RX6 TX6 2, w ∈ lw_ws := by
  have h1 : u_ws RX6 TX6 2 = [177, 179].filterMap (fun i => lw_tbl[i]?) := by decide +kernel
  have h2 : (u_ws RX6 TX6 2).all goodWord = true := by decide +kernel
  intro w hw
  refine List.mem_filter.mpr ⟨?_, List.all_eq_true.mp h2 w hw⟩
  rw [h1] at hw
  obtain ⟨i, -, hi⟩ := List.mem_filterMap.mp hw
  exact List.mem_of_getElem? hi
theorem uin_X7 : ∀ w ∈ u_ws RX7 TX7 5, w ∈ lw_ws := by
  have h1 : u_ws RX7 TX7 5 = [211, 213, 215, 217, 219].filterMap (fun i => lw_tbl[i]?) := by decide +kernel
  have h2 : (u_ws RX7 TX7 5).all goodWord = true := by decide +kernel
  intro w hw
  refine List.mem_filter.mpr ⟨?_, List.all_eq_true.mp h2 w hw⟩
  rw [h1] at hw
  obtain ⟨i, -, hi⟩ := List.mem_filterMap.mp hw
  exact List.mem_of_getElem? hi
theorem wc_X7_init : Cond.code yX7_init cX7_init 1 none ∈ lw_ws := ws_mem 21 (by decide +kernel) rfl
theorem wc_objInit : Cond.code objectInit ⟨#[0xb1]⟩ 1 none ∈ lw_ws := ws_mem 24 (by decide +kernel) rfl
theorem wc_X3_init : Cond.code yX3_init cX3_init 2 none ∈ lw_ws := ws_mem 29 (by decide +kernel) rfl
theorem wc_X0_init : Cond.code yX0_init cX0_init 1 none ∈ lw_ws := ws_mem 38 (by decide +kernel) rfl
theorem wc_X1_init : Cond.code yX1_init cX1_init 1 none ∈ lw_ws := ws_mem 44 (by decide +kernel) rfl
theorem wc_X2_init : Cond.code yX2_init cX2_init 1 none ∈ lw_ws := ws_mem 108 (by decide +kernel) rfl
theorem wc_X4_init : Cond.code yX4_init cX4_init 2 none ∈ lw_ws := ws_mem 156 (by decide +kernel) rfl
theorem wc_X6_init : Cond.code yX6_init cX6_init 1 none ∈ lw_ws := ws_mem 173 (by decide +kernel) rfl
theorem wc_X5_init : Cond.code yX5_init cX5_init 2 none ∈ lw_ws := ws_mem 187 (by decide +kernel) rfl
theorem wc_X7_count : Cond.code yX7_count cX7_count 2 (some .int) ∈ lw_ws := ws_mem 225 (by decide +kernel) rfl
theorem wc_X3_sumOver : Cond.code yX3_sumOver cX3_sumOver 5 (some .int) ∈ lw_ws := ws_mem 229 (by decide +kernel) rfl
theorem wc_X0_tell : Cond.code yX0_tell cX0_tell 2 (some .int) ∈ lw_ws := ws_mem 233 (by decide +kernel) rfl
theorem wc_X0_age : Cond.code yX0_age cX0_age 1 (some .int) ∈ lw_ws := ws_mem 237 (by decide +kernel) rfl
theorem wc_X3_aboutToTell : Cond.code yX3_aboutToTell cX3_aboutToTell 3 (some .int) ∈ lw_ws := ws_mem 242 (by decide +kernel) rfl
theorem wc_X3_greatestAge : Cond.code yX3_greatestAge cX3_greatestAge 3 (some .int) ∈ lw_ws := ws_mem 246 (by decide +kernel) rfl
theorem wc_J9_max_7cf53 : Cond.code yJ9_max_7cf53 cJ9_max_7cf53 2 (some .int) ∈ lw_ws := ws_mem 251 (by decide +kernel) rfl
theorem wc_L_cell : Cond.code yL_cell cL_cell 2 (some .int) ∈ lw_ws := ws_mem 255 (by decide +kernel) rfl
theorem wc_L_low : Cond.code yL_low cL_low 2 (some .int) ∈ lw_ws := ws_mem 259 (by decide +kernel) rfl
theorem wc_L_acts : Cond.code yL_acts cL_acts 12 (some .boolean) ∈ lw_ws := ws_mem 263 (by decide +kernel) rfl
theorem wc_L_comes : Cond.code yL_comes cL_comes 13 (some .boolean) ∈ lw_ws := ws_mem 267 (by decide +kernel) rfl
theorem wc_X7_clock : Cond.code yX7_clock cX7_clock 6 (some .int) ∈ lw_ws := ws_mem 271 (by decide +kernel) rfl
theorem wc_X4_note : Cond.code yX4_note cX4_note 2 none ∈ lw_ws := ws_mem 275 (by decide +kernel) rfl
theorem wc_X3_copyFrom : Cond.code yX3_copyFrom cX3_copyFrom 3 none ∈ lw_ws := ws_mem 279 (by decide +kernel) rfl
theorem wc_X0_copyFrom : Cond.code yX0_copyFrom cX0_copyFrom 2 none ∈ lw_ws := ws_mem 283 (by decide +kernel) rfl
theorem wc_X1_copyFrom : Cond.code yX1_copyFrom cX1_copyFrom 2 none ∈ lw_ws := ws_mem 290 (by decide +kernel) rfl
theorem wc_X2_copyFrom : Cond.code yX2_copyFrom cX2_copyFrom 2 none ∈ lw_ws := ws_mem 294 (by decide +kernel) rfl
theorem wc_X3_addClock : Cond.code yX3_addClock cX3_addClock 7 (some .int) ∈ lw_ws := ws_mem 298 (by decide +kernel) rfl
theorem wc_X7_isClock : Cond.code yX7_isClock cX7_isClock 5 (some .boolean) ∈ lw_ws := ws_mem 301 (by decide +kernel) rfl
theorem wc_X7_isLaw : Cond.code yX7_isLaw cX7_isLaw 1 (some .boolean) ∈ lw_ws := ws_mem 304 (by decide +kernel) rfl
theorem wc_X7_isGap : Cond.code yX7_isGap cX7_isGap 1 (some .boolean) ∈ lw_ws := ws_mem 307 (by decide +kernel) rfl
theorem wc_X7_mayFollow : Cond.code yX7_mayFollow cX7_mayFollow 2 (some .boolean) ∈ lw_ws := ws_mem 310 (by decide +kernel) rfl
theorem wc_X0_set : Cond.code yX0_set cX0_set 6 none ∈ lw_ws := ws_mem 316 (by decide +kernel) rfl
theorem wc_X1_empty : Cond.code yX1_empty cX1_empty 1 none ∈ lw_ws := ws_mem 320 (by decide +kernel) rfl
theorem wc_X0_fillRound : Cond.code yX0_fillRound cX0_fillRound 2 none ∈ lw_ws := ws_mem 324 (by decide +kernel) rfl
theorem wc_X1_add : Cond.code yX1_add cX1_add 3 none ∈ lw_ws := ws_mem 328 (by decide +kernel) rfl
theorem wc_X3_beginGap : Cond.code yX3_beginGap cX3_beginGap 2 none ∈ lw_ws := ws_mem 332 (by decide +kernel) rfl
theorem wc_X3_draw : Cond.code yX3_draw cX3_draw 2 (some .int) ∈ lw_ws := ws_mem 336 (by decide +kernel) rfl
theorem wc_X0_placeInTurn : Cond.code yX0_placeInTurn cX0_placeInTurn 1 (some .int) ∈ lw_ws := ws_mem 340 (by decide +kernel) rfl
theorem wc_X0_beginAt : Cond.code yX0_beginAt cX0_beginAt 2 none ∈ lw_ws := ws_mem 344 (by decide +kernel) rfl
theorem wc_X7_settle : Cond.code yX7_settle cX7_settle 2 (some .int) ∈ lw_ws := ws_mem 348 (by decide +kernel) rfl
theorem wc_X4_keep : Cond.code yX4_keep cX4_keep 3 none ∈ lw_ws := ws_mem 352 (by decide +kernel) rfl
theorem wc_L_many : Cond.code yL_many cL_many 3 (some .int) ∈ lw_ws := ws_mem 356 (by decide +kernel) rfl
theorem wc_L_begins : Cond.code yL_begins cL_begins 4 none ∈ lw_ws := ws_mem 359 (by decide +kernel) rfl
theorem wc_L_gap : Cond.code yL_gap cL_gap 4 (some .int) ∈ lw_ws := ws_mem 362 (by decide +kernel) rfl
theorem wc_X7_wind : Cond.code yX7_wind cX7_wind 2 (some .int) ∈ lw_ws := ws_mem 366 (by decide +kernel) rfl
theorem wc_X3_windClock : Cond.code yX3_windClock cX3_windClock 3 (some .int) ∈ lw_ws := ws_mem 370 (by decide +kernel) rfl
theorem wc_X3_clockAt : Cond.code yX3_clockAt cX3_clockAt 2 (some (.object "RenewalClocks$Clock")) ∈ lw_ws := ws_mem 374 (by decide +kernel) rfl
theorem wc_X7_passenger : Cond.code yX7_passenger cX7_passenger 2 (some .int) ∈ lw_ws := ws_mem 379 (by decide +kernel) rfl
theorem wc_X3_addPassenger : Cond.code yX3_addPassenger cX3_addPassenger 3 (some .int) ∈ lw_ws := ws_mem 383 (by decide +kernel) rfl
theorem wc_X7_tick : Cond.code yX7_tick cX7_tick 2 (some .int) ∈ lw_ws := ws_mem 387 (by decide +kernel) rfl
theorem wc_X3_endTicks : Cond.code yX3_endTicks cX3_endTicks 4 (some .int) ∈ lw_ws := ws_mem 391 (by decide +kernel) rfl
theorem wc_X3_endTick : Cond.code yX3_endTick cX3_endTick 3 (some .int) ∈ lw_ws := ws_mem 396 (by decide +kernel) rfl
theorem wc_X0_passTick : Cond.code yX0_passTick cX0_passTick 1 (some .boolean) ∈ lw_ws := ws_mem 400 (by decide +kernel) rfl
theorem wc_X2_passTick : Cond.code yX2_passTick cX2_passTick 3 none ∈ lw_ws := ws_mem 404 (by decide +kernel) rfl
theorem wc_J6_bitCount_0f7a4 : Cond.code yJ6_bitCount_0f7a4 cJ6_bitCount_0f7a4 1 (some .int) ∈ lw_ws := ws_mem 407 (by decide +kernel) rfl
theorem wc_L_joins : Cond.code yL_joins cL_joins 10 (some .boolean) ∈ lw_ws := ws_mem 414 (by decide +kernel) rfl
theorem wc_X7_group : Cond.code yX7_group cX7_group 2 (some .int) ∈ lw_ws := ws_mem 418 (by decide +kernel) rfl
theorem wc_X3_addGroup : Cond.code yX3_addGroup cX3_addGroup 2 (some .int) ∈ lw_ws := ws_mem 422 (by decide +kernel) rfl
theorem wc_X2_set : Cond.code yX2_set cX2_set 2 none ∈ lw_ws := ws_mem 427 (by decide +kernel) rfl
theorem wc_X7_join : Cond.code yX7_join cX7_join 3 (some .int) ∈ lw_ws := ws_mem 431 (by decide +kernel) rfl
theorem wc_X3_joinGroup : Cond.code yX3_joinGroup cX3_joinGroup 5 (some .int) ∈ lw_ws := ws_mem 435 (by decide +kernel) rfl
theorem wc_X3_groupAt : Cond.code yX3_groupAt cX3_groupAt 2 (some (.object "RenewalClocks$Group")) ∈ lw_ws := ws_mem 439 (by decide +kernel) rfl
theorem wc_X2_has : Cond.code yX2_has cX2_has 2 (some .boolean) ∈ lw_ws := ws_mem 443 (by decide +kernel) rfl
theorem wc_X2_size : Cond.code yX2_size cX2_size 1 (some .int) ∈ lw_ws := ws_mem 448 (by decide +kernel) rfl
theorem wc_X7_leave : Cond.code yX7_leave cX7_leave 3 (some .int) ∈ lw_ws := ws_mem 452 (by decide +kernel) rfl
theorem wc_X3_leaveGroup : Cond.code yX3_leaveGroup cX3_leaveGroup 4 (some .int) ∈ lw_ws := ws_mem 456 (by decide +kernel) rfl
theorem wc_L_bitsOf : Cond.code yL_bitsOf cL_bitsOf 3 (some .int) ∈ lw_ws := ws_mem 459 (by decide +kernel) rfl
theorem wc_L_rest : Cond.code yL_rest cL_rest 2 (some .int) ∈ lw_ws := ws_mem 463 (by decide +kernel) rfl
theorem wc_L_ticks : Cond.code yL_ticks cL_ticks 7 (some .int) ∈ lw_ws := ws_mem 467 (by decide +kernel) rfl
theorem wc_L_isSo : Cond.code yL_isSo cL_isSo 9 (some .boolean) ∈ lw_ws := ws_mem 470 (by decide +kernel) rfl
theorem wc_L_areClocks : Cond.code yL_areClocks cL_areClocks 14 (some .boolean) ∈ lw_ws := ws_mem 473 (by decide +kernel) rfl
theorem wc_X7_clockOf : Cond.code yX7_clockOf cX7_clockOf 4 (some .int) ∈ lw_ws := ws_mem 477 (by decide +kernel) rfl
theorem wc_L_areGroups : Cond.code yL_areGroups cL_areGroups 10 (some .boolean) ∈ lw_ws := ws_mem 483 (by decide +kernel) rfl
theorem wc_X7_groupOf : Cond.code yX7_groupOf cX7_groupOf 4 (some .int) ∈ lw_ws := ws_mem 487 (by decide +kernel) rfl
theorem wc_X3_leastRest : Cond.code yX3_leastRest cX3_leastRest 5 (some .int) ∈ lw_ws := ws_mem 492 (by decide +kernel) rfl
theorem wc_X7_next : Cond.code yX7_next cX7_next 2 (some .int) ∈ lw_ws := ws_mem 496 (by decide +kernel) rfl
theorem wc_X3_clockInPlace : Cond.code yX3_clockInPlace cX3_clockInPlace 3 (some .int) ∈ lw_ws := ws_mem 500 (by decide +kernel) rfl
theorem wc_X3_clocksAhead : Cond.code yX3_clocksAhead cX3_clocksAhead 6 (some .int) ∈ lw_ws := ws_mem 504 (by decide +kernel) rfl
theorem wz_L : Cond.initialized RL ∈ lw_ws := ws_mem 5 (by decide +kernel) rfl
theorem wz_X7 : Cond.initialized RX7 ∈ lw_ws := ws_mem 6 (by decide +kernel) rfl
theorem wz_X3 : Cond.initialized RX3 ∈ lw_ws := ws_mem 7 (by decide +kernel) rfl
theorem wz_X0 : Cond.initialized RX0 ∈ lw_ws := ws_mem 8 (by decide +kernel) rfl
theorem wz_X1 : Cond.initialized RX1 ∈ lw_ws := ws_mem 9 (by decide +kernel) rfl
theorem wz_X2 : Cond.initialized RX2 ∈ lw_ws := ws_mem 10 (by decide +kernel) rfl
theorem wz_X4 : Cond.initialized RX4 ∈ lw_ws := ws_mem 11 (by decide +kernel) rfl
theorem wz_X6 : Cond.initialized RX6 ∈ lw_ws := ws_mem 12 (by decide +kernel) rfl
theorem wz_X5 : Cond.initialized RX5 ∈ lw_ws := ws_mem 13 (by decide +kernel) rfl
theorem wz_J9 : Cond.initialized RJ9 ∈ lw_ws := ws_mem 14 (by decide +kernel) rfl
theorem wz_J10 : Cond.initialized RJ10 ∈ lw_ws := ws_mem 15 (by decide +kernel) rfl
theorem wz_J6 : Cond.initialized RJ6 ∈ lw_ws := ws_mem 16 (by decide +kernel) rfl
theorem wcl_L_28 : Cond.classLink RL 28 RX7 ∈ lw_ws := ws_mem 17 (by decide +kernel) rfl
theorem win_X7 : Cond.instantiable RX7 5 ∈ lw_ws := ws_mem 18 (by decide +kernel) rfl
theorem wi_X7_init : Cond.instanceMethod yX7_init ∈ lw_ws := ws_mem 20 (by decide +kernel) rfl
theorem wi_objInit : Cond.instanceMethod objectInit ∈ lw_ws := ws_mem 23 (by decide +kernel) rfl
theorem wcl_X7_9 : Cond.classLink RX7 9 RX3 ∈ lw_ws := ws_mem 25 (by decide +kernel) rfl
theorem win_X3 : Cond.instantiable RX3 6 ∈ lw_ws := ws_mem 26 (by decide +kernel) rfl
theorem wi_X3_init : Cond.instanceMethod yX3_init ∈ lw_ws := ws_mem 28 (by decide +kernel) rfl
theorem wcl_X3_9 : Cond.classLink RX3 9 RX0 ∈ lw_ws := ws_mem 31 (by decide +kernel) rfl
theorem wcl_X3_17 : Cond.classLink RX3 17 RX2 ∈ lw_ws := ws_mem 33 (by decide +kernel) rfl
theorem win_X0 : Cond.instantiable RX0 10 ∈ lw_ws := ws_mem 35 (by decide +kernel) rfl
theorem wi_X0_init : Cond.instanceMethod yX0_init ∈ lw_ws := ws_mem 37 (by decide +kernel) rfl
theorem wcl_X0_15 : Cond.classLink RX0 15 RX1 ∈ lw_ws := ws_mem 40 (by decide +kernel) rfl
theorem win_X1 : Cond.instantiable RX1 5 ∈ lw_ws := ws_mem 41 (by decide +kernel) rfl
theorem wi_X1_init : Cond.instanceMethod yX1_init ∈ lw_ws := ws_mem 43 (by decide +kernel) rfl
theorem wac_int : Cond.arrayClass .int ∈ lw_ws := ws_mem 66 (by decide +kernel) rfl
theorem win_X2 : Cond.instantiable RX2 4 ∈ lw_ws := ws_mem 105 (by decide +kernel) rfl
theorem wi_X2_init : Cond.instanceMethod yX2_init ∈ lw_ws := ws_mem 107 (by decide +kernel) rfl
theorem wcl_X7_19 : Cond.classLink RX7 19 RX4 ∈ lw_ws := ws_mem 152 (by decide +kernel) rfl
theorem win_X4 : Cond.instantiable RX4 2 ∈ lw_ws := ws_mem 153 (by decide +kernel) rfl
theorem wi_X4_init : Cond.instanceMethod yX4_init ∈ lw_ws := ws_mem 155 (by decide +kernel) rfl
theorem wcl_X4_9 : Cond.classLink RX4 9 RX3 ∈ lw_ws := ws_mem 158 (by decide +kernel) rfl
theorem wcl_X7_26 : Cond.classLink RX7 26 RX6 ∈ lw_ws := ws_mem 169 (by decide +kernel) rfl
theorem win_X6 : Cond.instantiable RX6 2 ∈ lw_ws := ws_mem 170 (by decide +kernel) rfl
theorem wi_X6_init : Cond.instanceMethod yX6_init ∈ lw_ws := ws_mem 172 (by decide +kernel) rfl
theorem wac_char : Cond.arrayClass .char ∈ lw_ws := ws_mem 182 (by decide +kernel) rfl
theorem wcl_X7_33 : Cond.classLink RX7 33 RX5 ∈ lw_ws := ws_mem 183 (by decide +kernel) rfl
theorem win_X5 : Cond.instantiable RX5 7 ∈ lw_ws := ws_mem 184 (by decide +kernel) rfl
theorem wi_X5_init : Cond.instanceMethod yX5_init ∈ lw_ws := ws_mem 186 (by decide +kernel) rfl
theorem wi_X7_count : Cond.instanceMethod yX7_count ∈ lw_ws := ws_mem 223 (by decide +kernel) rfl
theorem wi_X3_sumOver : Cond.instanceMethod yX3_sumOver ∈ lw_ws := ws_mem 227 (by decide +kernel) rfl
theorem wi_X0_tell : Cond.instanceMethod yX0_tell ∈ lw_ws := ws_mem 231 (by decide +kernel) rfl
theorem wi_X0_age : Cond.instanceMethod yX0_age ∈ lw_ws := ws_mem 235 (by decide +kernel) rfl
theorem wi_X3_aboutToTell : Cond.instanceMethod yX3_aboutToTell ∈ lw_ws := ws_mem 240 (by decide +kernel) rfl
theorem wi_X3_greatestAge : Cond.instanceMethod yX3_greatestAge ∈ lw_ws := ws_mem 244 (by decide +kernel) rfl
theorem wt_J9_max_7cf53 : Cond.static yJ9_max_7cf53 ∈ lw_ws := ws_mem 250 (by decide +kernel) rfl
theorem wt_L_cell : Cond.static yL_cell ∈ lw_ws := ws_mem 254 (by decide +kernel) rfl
theorem wt_L_low : Cond.static yL_low ∈ lw_ws := ws_mem 258 (by decide +kernel) rfl
theorem wt_L_acts : Cond.static yL_acts ∈ lw_ws := ws_mem 262 (by decide +kernel) rfl
theorem wt_L_comes : Cond.static yL_comes ∈ lw_ws := ws_mem 266 (by decide +kernel) rfl
theorem wi_X7_clock : Cond.instanceMethod yX7_clock ∈ lw_ws := ws_mem 269 (by decide +kernel) rfl
theorem wi_X4_note : Cond.instanceMethod yX4_note ∈ lw_ws := ws_mem 273 (by decide +kernel) rfl
theorem wi_X3_copyFrom : Cond.instanceMethod yX3_copyFrom ∈ lw_ws := ws_mem 277 (by decide +kernel) rfl
theorem wi_X0_copyFrom : Cond.instanceMethod yX0_copyFrom ∈ lw_ws := ws_mem 281 (by decide +kernel) rfl
theorem wt_arraycopy : Cond.static arraycopyName ∈ lw_ws := ws_mem 285 (by decide +kernel) rfl
theorem wn_arraycopy : Cond.native arraycopyName ∈ lw_ws := ws_mem 286 (by decide +kernel) rfl
theorem wi_X1_copyFrom : Cond.instanceMethod yX1_copyFrom ∈ lw_ws := ws_mem 288 (by decide +kernel) rfl
theorem wi_X2_copyFrom : Cond.instanceMethod yX2_copyFrom ∈ lw_ws := ws_mem 292 (by decide +kernel) rfl
theorem wi_X3_addClock : Cond.instanceMethod yX3_addClock ∈ lw_ws := ws_mem 296 (by decide +kernel) rfl
theorem wt_X7_isClock : Cond.static yX7_isClock ∈ lw_ws := ws_mem 300 (by decide +kernel) rfl
theorem wt_X7_isLaw : Cond.static yX7_isLaw ∈ lw_ws := ws_mem 303 (by decide +kernel) rfl
theorem wt_X7_isGap : Cond.static yX7_isGap ∈ lw_ws := ws_mem 306 (by decide +kernel) rfl
theorem wt_X7_mayFollow : Cond.static yX7_mayFollow ∈ lw_ws := ws_mem 309 (by decide +kernel) rfl
theorem wi_X0_set : Cond.instanceMethod yX0_set ∈ lw_ws := ws_mem 314 (by decide +kernel) rfl
theorem wi_X1_empty : Cond.instanceMethod yX1_empty ∈ lw_ws := ws_mem 318 (by decide +kernel) rfl
theorem wi_X0_fillRound : Cond.instanceMethod yX0_fillRound ∈ lw_ws := ws_mem 323 (by decide +kernel) rfl
theorem wi_X1_add : Cond.instanceMethod yX1_add ∈ lw_ws := ws_mem 326 (by decide +kernel) rfl
theorem wi_X3_beginGap : Cond.instanceMethod yX3_beginGap ∈ lw_ws := ws_mem 331 (by decide +kernel) rfl
theorem wi_X3_draw : Cond.instanceMethod yX3_draw ∈ lw_ws := ws_mem 335 (by decide +kernel) rfl
theorem wi_X0_placeInTurn : Cond.instanceMethod yX0_placeInTurn ∈ lw_ws := ws_mem 338 (by decide +kernel) rfl
theorem wi_X0_beginAt : Cond.instanceMethod yX0_beginAt ∈ lw_ws := ws_mem 342 (by decide +kernel) rfl
theorem wi_X7_settle : Cond.instanceMethod yX7_settle ∈ lw_ws := ws_mem 347 (by decide +kernel) rfl
theorem wi_X4_keep : Cond.instanceMethod yX4_keep ∈ lw_ws := ws_mem 350 (by decide +kernel) rfl
theorem wt_L_many : Cond.static yL_many ∈ lw_ws := ws_mem 355 (by decide +kernel) rfl
theorem wt_L_begins : Cond.static yL_begins ∈ lw_ws := ws_mem 358 (by decide +kernel) rfl
theorem wt_L_gap : Cond.static yL_gap ∈ lw_ws := ws_mem 361 (by decide +kernel) rfl
theorem wi_X7_wind : Cond.instanceMethod yX7_wind ∈ lw_ws := ws_mem 364 (by decide +kernel) rfl
theorem wi_X3_windClock : Cond.instanceMethod yX3_windClock ∈ lw_ws := ws_mem 368 (by decide +kernel) rfl
theorem wi_X3_clockAt : Cond.instanceMethod yX3_clockAt ∈ lw_ws := ws_mem 372 (by decide +kernel) rfl
theorem wi_X7_passenger : Cond.instanceMethod yX7_passenger ∈ lw_ws := ws_mem 377 (by decide +kernel) rfl
theorem wi_X3_addPassenger : Cond.instanceMethod yX3_addPassenger ∈ lw_ws := ws_mem 381 (by decide +kernel) rfl
theorem wi_X7_tick : Cond.instanceMethod yX7_tick ∈ lw_ws := ws_mem 385 (by decide +kernel) rfl
theorem wi_X3_endTicks : Cond.instanceMethod yX3_endTicks ∈ lw_ws := ws_mem 389 (by decide +kernel) rfl
theorem wi_X3_endTick : Cond.instanceMethod yX3_endTick ∈ lw_ws := ws_mem 394 (by decide +kernel) rfl
theorem wi_X0_passTick : Cond.instanceMethod yX0_passTick ∈ lw_ws := ws_mem 398 (by decide +kernel) rfl
theorem wi_X2_passTick : Cond.instanceMethod yX2_passTick ∈ lw_ws := ws_mem 402 (by decide +kernel) rfl
theorem wt_J6_bitCount_0f7a4 : Cond.static yJ6_bitCount_0f7a4 ∈ lw_ws := ws_mem 406 (by decide +kernel) rfl
theorem wt_L_joins : Cond.static yL_joins ∈ lw_ws := ws_mem 413 (by decide +kernel) rfl
theorem wi_X7_group : Cond.instanceMethod yX7_group ∈ lw_ws := ws_mem 416 (by decide +kernel) rfl
theorem wi_X3_addGroup : Cond.instanceMethod yX3_addGroup ∈ lw_ws := ws_mem 420 (by decide +kernel) rfl
theorem wi_X2_set : Cond.instanceMethod yX2_set ∈ lw_ws := ws_mem 425 (by decide +kernel) rfl
theorem wi_X7_join : Cond.instanceMethod yX7_join ∈ lw_ws := ws_mem 429 (by decide +kernel) rfl
theorem wi_X3_joinGroup : Cond.instanceMethod yX3_joinGroup ∈ lw_ws := ws_mem 433 (by decide +kernel) rfl
theorem wi_X3_groupAt : Cond.instanceMethod yX3_groupAt ∈ lw_ws := ws_mem 437 (by decide +kernel) rfl
theorem wi_X2_has : Cond.instanceMethod yX2_has ∈ lw_ws := ws_mem 441 (by decide +kernel) rfl
theorem wi_X2_size : Cond.instanceMethod yX2_size ∈ lw_ws := ws_mem 446 (by decide +kernel) rfl
theorem wi_X7_leave : Cond.instanceMethod yX7_leave ∈ lw_ws := ws_mem 450 (by decide +kernel) rfl
theorem wi_X3_leaveGroup : Cond.instanceMethod yX3_leaveGroup ∈ lw_ws := ws_mem 454 (by decide +kernel) rfl
theorem wt_L_bitsOf : Cond.static yL_bitsOf ∈ lw_ws := ws_mem 458 (by decide +kernel) rfl
theorem wt_L_rest : Cond.static yL_rest ∈ lw_ws := ws_mem 462 (by decide +kernel) rfl
theorem wt_L_ticks : Cond.static yL_ticks ∈ lw_ws := ws_mem 466 (by decide +kernel) rfl
theorem wt_L_isSo : Cond.static yL_isSo ∈ lw_ws := ws_mem 469 (by decide +kernel) rfl
theorem wt_L_areClocks : Cond.static yL_areClocks ∈ lw_ws := ws_mem 472 (by decide +kernel) rfl
theorem wi_X7_clockOf : Cond.instanceMethod yX7_clockOf ∈ lw_ws := ws_mem 475 (by decide +kernel) rfl
theorem wt_L_areGroups : Cond.static yL_areGroups ∈ lw_ws := ws_mem 482 (by decide +kernel) rfl
theorem wi_X7_groupOf : Cond.instanceMethod yX7_groupOf ∈ lw_ws := ws_mem 485 (by decide +kernel) rfl
theorem wi_X3_leastRest : Cond.instanceMethod yX3_leastRest ∈ lw_ws := ws_mem 490 (by decide +kernel) rfl
theorem wi_X7_next : Cond.instanceMethod yX7_next ∈ lw_ws := ws_mem 494 (by decide +kernel) rfl
theorem wi_X3_clockInPlace : Cond.instanceMethod yX3_clockInPlace ∈ lw_ws := ws_mem 498 (by decide +kernel) rfl
theorem wi_X3_clocksAhead : Cond.instanceMethod yX3_clocksAhead ∈ lw_ws := ws_mem 503 (by decide +kernel) rfl
theorem ws_X7_count : Cond.selects RX7 yX7_count yX7_count ∈ lw_ws := ws_mem 224 (by decide +kernel) rfl
theorem ws_X3_sumOver : Cond.selects RX3 yX3_sumOver yX3_sumOver ∈ lw_ws := ws_mem 228 (by decide +kernel) rfl
theorem ws_X0_tell : Cond.selects RX0 yX0_tell yX0_tell ∈ lw_ws := ws_mem 232 (by decide +kernel) rfl
theorem ws_X0_age : Cond.selects RX0 yX0_age yX0_age ∈ lw_ws := ws_mem 236 (by decide +kernel) rfl
theorem ws_X3_aboutToTell : Cond.selects RX3 yX3_aboutToTell yX3_aboutToTell ∈ lw_ws := ws_mem 241 (by decide +kernel) rfl
theorem ws_X3_greatestAge : Cond.selects RX3 yX3_greatestAge yX3_greatestAge ∈ lw_ws := ws_mem 245 (by decide +kernel) rfl
theorem ws_X7_clock : Cond.selects RX7 yX7_clock yX7_clock ∈ lw_ws := ws_mem 270 (by decide +kernel) rfl
theorem ws_X4_note : Cond.selects RX4 yX4_note yX4_note ∈ lw_ws := ws_mem 274 (by decide +kernel) rfl
theorem ws_X3_copyFrom : Cond.selects RX3 yX3_copyFrom yX3_copyFrom ∈ lw_ws := ws_mem 278 (by decide +kernel) rfl
theorem ws_X0_copyFrom : Cond.selects RX0 yX0_copyFrom yX0_copyFrom ∈ lw_ws := ws_mem 282 (by decide +kernel) rfl
theorem ws_X1_copyFrom : Cond.selects RX1 yX1_copyFrom yX1_copyFrom ∈ lw_ws := ws_mem 289 (by decide +kernel) rfl
theorem ws_X2_copyFrom : Cond.selects RX2 yX2_copyFrom yX2_copyFrom ∈ lw_ws := ws_mem 293 (by decide +kernel) rfl
theorem ws_X3_addClock : Cond.selects RX3 yX3_addClock yX3_addClock ∈ lw_ws := ws_mem 297 (by decide +kernel) rfl
theorem ws_X0_set : Cond.selects RX0 yX0_set yX0_set ∈ lw_ws := ws_mem 315 (by decide +kernel) rfl
theorem ws_X1_empty : Cond.selects RX1 yX1_empty yX1_empty ∈ lw_ws := ws_mem 319 (by decide +kernel) rfl
theorem ws_X1_add : Cond.selects RX1 yX1_add yX1_add ∈ lw_ws := ws_mem 327 (by decide +kernel) rfl
theorem ws_X0_placeInTurn : Cond.selects RX0 yX0_placeInTurn yX0_placeInTurn ∈ lw_ws := ws_mem 339 (by decide +kernel) rfl
theorem ws_X0_beginAt : Cond.selects RX0 yX0_beginAt yX0_beginAt ∈ lw_ws := ws_mem 343 (by decide +kernel) rfl
theorem ws_X4_keep : Cond.selects RX4 yX4_keep yX4_keep ∈ lw_ws := ws_mem 351 (by decide +kernel) rfl
theorem ws_X7_wind : Cond.selects RX7 yX7_wind yX7_wind ∈ lw_ws := ws_mem 365 (by decide +kernel) rfl
theorem ws_X3_windClock : Cond.selects RX3 yX3_windClock yX3_windClock ∈ lw_ws := ws_mem 369 (by decide +kernel) rfl
theorem ws_X3_clockAt : Cond.selects RX3 yX3_clockAt yX3_clockAt ∈ lw_ws := ws_mem 373 (by decide +kernel) rfl
theorem ws_X7_passenger : Cond.selects RX7 yX7_passenger yX7_passenger ∈ lw_ws := ws_mem 378 (by decide +kernel) rfl
theorem ws_X3_addPassenger : Cond.selects RX3 yX3_addPassenger yX3_addPassenger ∈ lw_ws := ws_mem 382 (by decide +kernel) rfl
theorem ws_X7_tick : Cond.selects RX7 yX7_tick yX7_tick ∈ lw_ws := ws_mem 386 (by decide +kernel) rfl
theorem ws_X3_endTicks : Cond.selects RX3 yX3_endTicks yX3_endTicks ∈ lw_ws := ws_mem 390 (by decide +kernel) rfl
theorem ws_X3_endTick : Cond.selects RX3 yX3_endTick yX3_endTick ∈ lw_ws := ws_mem 395 (by decide +kernel) rfl
theorem ws_X0_passTick : Cond.selects RX0 yX0_passTick yX0_passTick ∈ lw_ws := ws_mem 399 (by decide +kernel) rfl
theorem ws_X2_passTick : Cond.selects RX2 yX2_passTick yX2_passTick ∈ lw_ws := ws_mem 403 (by decide +kernel) rfl
theorem ws_X7_group : Cond.selects RX7 yX7_group yX7_group ∈ lw_ws := ws_mem 417 (by decide +kernel) rfl
theorem ws_X3_addGroup : Cond.selects RX3 yX3_addGroup yX3_addGroup ∈ lw_ws := ws_mem 421 (by decide +kernel) rfl
theorem ws_X2_set : Cond.selects RX2 yX2_set yX2_set ∈ lw_ws := ws_mem 426 (by decide +kernel) rfl
theorem ws_X7_join : Cond.selects RX7 yX7_join yX7_join ∈ lw_ws := ws_mem 430 (by decide +kernel) rfl
theorem ws_X3_joinGroup : Cond.selects RX3 yX3_joinGroup yX3_joinGroup ∈ lw_ws := ws_mem 434 (by decide +kernel) rfl
theorem ws_X3_groupAt : Cond.selects RX3 yX3_groupAt yX3_groupAt ∈ lw_ws := ws_mem 438 (by decide +kernel) rfl
theorem ws_X2_has : Cond.selects RX2 yX2_has yX2_has ∈ lw_ws := ws_mem 442 (by decide +kernel) rfl
theorem ws_X2_size : Cond.selects RX2 yX2_size yX2_size ∈ lw_ws := ws_mem 447 (by decide +kernel) rfl
theorem ws_X7_leave : Cond.selects RX7 yX7_leave yX7_leave ∈ lw_ws := ws_mem 451 (by decide +kernel) rfl
theorem ws_X3_leaveGroup : Cond.selects RX3 yX3_leaveGroup yX3_leaveGroup ∈ lw_ws := ws_mem 455 (by decide +kernel) rfl
theorem ws_X7_clockOf : Cond.selects RX7 yX7_clockOf yX7_clockOf ∈ lw_ws := ws_mem 476 (by decide +kernel) rfl
theorem ws_X7_groupOf : Cond.selects RX7 yX7_groupOf yX7_groupOf ∈ lw_ws := ws_mem 486 (by decide +kernel) rfl
theorem ws_X3_leastRest : Cond.selects RX3 yX3_leastRest yX3_leastRest ∈ lw_ws := ws_mem 491 (by decide +kernel) rfl
theorem ws_X7_next : Cond.selects RX7 yX7_next yX7_next ∈ lw_ws := ws_mem 495 (by decide +kernel) rfl
theorem ws_X3_clockInPlace : Cond.selects RX3 yX3_clockInPlace yX3_clockInPlace ∈ lw_ws := ws_mem 499 (by decide +kernel) rfl
theorem ws_X0_fillRound : Cond.selects RX0 yX0_fillRound yX0_fillRound ∈ lw_ws := ws_mem 0 (by decide +kernel) rfl
theorem ws_X3_beginGap : Cond.selects RX3 yX3_beginGap yX3_beginGap ∈ lw_ws := ws_mem 1 (by decide +kernel) rfl
theorem ws_X3_draw : Cond.selects RX3 yX3_draw yX3_draw ∈ lw_ws := ws_mem 2 (by decide +kernel) rfl
theorem ws_X7_settle : Cond.selects RX7 yX7_settle yX7_settle ∈ lw_ws := ws_mem 3 (by decide +kernel) rfl
theorem ws_X3_clocksAhead : Cond.selects RX3 yX3_clocksAhead yX3_clocksAhead ∈ lw_ws := ws_mem 4 (by decide +kernel) rfl
theorem wl_X7_108 : Cond.methodLink RX7 108 yX3_groupAt ∈ lw_ws := ws_mem 488 (by decide +kernel) rfl
theorem wl_X7_11 : Cond.methodLink RX7 11 yX3_init ∈ lw_ws := ws_mem 27 (by decide +kernel) rfl
theorem wl_X7_120 : Cond.methodLink RX7 120 yX3_leastRest ∈ lw_ws := ws_mem 489 (by decide +kernel) rfl
theorem wl_X7_128 : Cond.methodLink RX7 128 yX3_sumOver ∈ lw_ws := ws_mem 226 (by decide +kernel) rfl
theorem wl_X7_131 : Cond.methodLink RX7 131 yX3_clockInPlace ∈ lw_ws := ws_mem 497 (by decide +kernel) rfl
theorem wl_X7_167 : Cond.methodLink RX7 167 yX3_aboutToTell ∈ lw_ws := ws_mem 239 (by decide +kernel) rfl
theorem wl_X7_170 : Cond.methodLink RX7 170 yX3_greatestAge ∈ lw_ws := ws_mem 243 (by decide +kernel) rfl
theorem wl_X7_203 : Cond.methodLink RX7 203 yX4_keep ∈ lw_ws := ws_mem 349 (by decide +kernel) rfl
theorem wl_X7_21 : Cond.methodLink RX7 21 yX4_init ∈ lw_ws := ws_mem 154 (by decide +kernel) rfl
theorem wl_X7_212 : Cond.methodLink RX7 212 yX7_isLaw ∈ lw_ws := ws_mem 302 (by decide +kernel) rfl
theorem wl_X7_216 : Cond.methodLink RX7 216 yX7_isGap ∈ lw_ws := ws_mem 305 (by decide +kernel) rfl
theorem wl_X7_219 : Cond.methodLink RX7 219 yX7_mayFollow ∈ lw_ws := ws_mem 308 (by decide +kernel) rfl
theorem wl_X7_3 : Cond.methodLink RX7 3 objectInit ∈ lw_ws := ws_mem 22 (by decide +kernel) rfl
theorem wl_X7_35 : Cond.methodLink RX7 35 yX5_init ∈ lw_ws := ws_mem 185 (by decide +kernel) rfl
theorem wl_X7_42 : Cond.methodLink RX7 42 yX4_note ∈ lw_ws := ws_mem 272 (by decide +kernel) rfl
theorem wl_X7_46 : Cond.methodLink RX7 46 yX3_addClock ∈ lw_ws := ws_mem 295 (by decide +kernel) rfl
theorem wl_X7_50 : Cond.methodLink RX7 50 yX7_settle ∈ lw_ws := ws_mem 345 (by decide +kernel) rfl
theorem wl_X7_54 : Cond.methodLink RX7 54 yX3_windClock ∈ lw_ws := ws_mem 367 (by decide +kernel) rfl
theorem wl_X7_57 : Cond.methodLink RX7 57 yX3_endTicks ∈ lw_ws := ws_mem 388 (by decide +kernel) rfl
theorem wl_X7_60 : Cond.methodLink RX7 60 yX3_addPassenger ∈ lw_ws := ws_mem 380 (by decide +kernel) rfl
theorem wl_X7_63 : Cond.methodLink RX7 63 yX3_addGroup ∈ lw_ws := ws_mem 419 (by decide +kernel) rfl
theorem wl_X7_66 : Cond.methodLink RX7 66 yX3_joinGroup ∈ lw_ws := ws_mem 432 (by decide +kernel) rfl
theorem wl_X7_70 : Cond.methodLink RX7 70 yX3_leaveGroup ∈ lw_ws := ws_mem 453 (by decide +kernel) rfl
theorem wl_X7_73 : Cond.methodLink RX7 73 yX3_clockAt ∈ lw_ws := ws_mem 478 (by decide +kernel) rfl
theorem wl_X7_78 : Cond.methodLink RX7 78 yX0_tell ∈ lw_ws := ws_mem 479 (by decide +kernel) rfl
theorem wl_X0_3 : Cond.methodLink RX0 3 objectInit ∈ lw_ws := ws_mem 39 (by decide +kernel) rfl
theorem wl_X0_47 : Cond.methodLink RX0 47 yX1_empty ∈ lw_ws := ws_mem 317 (by decide +kernel) rfl
theorem wl_X0_50 : Cond.methodLink RX0 50 yX0_fillRound ∈ lw_ws := ws_mem 321 (by decide +kernel) rfl
theorem wl_X0_53 : Cond.methodLink RX0 53 yX1_add ∈ lw_ws := ws_mem 325 (by decide +kernel) rfl
theorem wl_X0_57 : Cond.methodLink RX0 57 arraycopyName ∈ lw_ws := ws_mem 284 (by decide +kernel) rfl
theorem wl_X0_63 : Cond.methodLink RX0 63 yX1_copyFrom ∈ lw_ws := ws_mem 287 (by decide +kernel) rfl
theorem wl_X0_70 : Cond.methodLink RX0 70 yX0_age ∈ lw_ws := ws_mem 234 (by decide +kernel) rfl
theorem wl_X1_1 : Cond.methodLink RX1 1 objectInit ∈ lw_ws := ws_mem 45 (by decide +kernel) rfl
theorem wl_X2_1 : Cond.methodLink RX2 1 objectInit ∈ lw_ws := ws_mem 109 (by decide +kernel) rfl
theorem wl_X2_22 : Cond.methodLink RX2 22 yJ6_bitCount_0f7a4 ∈ lw_ws := ws_mem 405 (by decide +kernel) rfl
theorem wl_X3_100 : Cond.methodLink RX3 100 yX2_passTick ∈ lw_ws := ws_mem 401 (by decide +kernel) rfl
theorem wl_X3_102 : Cond.methodLink RX3 102 yJ6_bitCount_0f7a4 ∈ lw_ws := ws_mem 411 (by decide +kernel) rfl
theorem wl_X3_120 : Cond.methodLink RX3 120 yX2_set ∈ lw_ws := ws_mem 424 (by decide +kernel) rfl
theorem wl_X3_122 : Cond.methodLink RX3 122 yX3_groupAt ∈ lw_ws := ws_mem 436 (by decide +kernel) rfl
theorem wl_X3_127 : Cond.methodLink RX3 127 yX2_has ∈ lw_ws := ws_mem 440 (by decide +kernel) rfl
theorem wl_X3_131 : Cond.methodLink RX3 131 yX2_size ∈ lw_ws := ws_mem 445 (by decide +kernel) rfl
theorem wl_X3_138 : Cond.methodLink RX3 138 yX0_tell ∈ lw_ws := ws_mem 230 (by decide +kernel) rfl
theorem wl_X3_141 : Cond.methodLink RX3 141 yX3_clocksAhead ∈ lw_ws := ws_mem 501 (by decide +kernel) rfl
theorem wl_X3_149 : Cond.methodLink RX3 149 yX0_age ∈ lw_ws := ws_mem 248 (by decide +kernel) rfl
theorem wl_X3_152 : Cond.methodLink RX3 152 yJ9_max_7cf53 ∈ lw_ws := ws_mem 249 (by decide +kernel) rfl
theorem wl_X3_3 : Cond.methodLink RX3 3 objectInit ∈ lw_ws := ws_mem 30 (by decide +kernel) rfl
theorem wl_X3_32 : Cond.methodLink RX3 32 yX0_copyFrom ∈ lw_ws := ws_mem 280 (by decide +kernel) rfl
theorem wl_X3_39 : Cond.methodLink RX3 39 yX2_copyFrom ∈ lw_ws := ws_mem 291 (by decide +kernel) rfl
theorem wl_X3_51 : Cond.methodLink RX3 51 yX0_set ∈ lw_ws := ws_mem 313 (by decide +kernel) rfl
theorem wl_X3_55 : Cond.methodLink RX3 55 yX3_beginGap ∈ lw_ws := ws_mem 329 (by decide +kernel) rfl
theorem wl_X3_58 : Cond.methodLink RX3 58 yX3_clockAt ∈ lw_ws := ws_mem 371 (by decide +kernel) rfl
theorem wl_X3_80 : Cond.methodLink RX3 80 yX3_draw ∈ lw_ws := ws_mem 333 (by decide +kernel) rfl
theorem wl_X3_84 : Cond.methodLink RX3 84 yX0_placeInTurn ∈ lw_ws := ws_mem 337 (by decide +kernel) rfl
theorem wl_X3_88 : Cond.methodLink RX3 88 yX0_beginAt ∈ lw_ws := ws_mem 341 (by decide +kernel) rfl
theorem wl_X3_93 : Cond.methodLink RX3 93 yX3_endTick ∈ lw_ws := ws_mem 393 (by decide +kernel) rfl
theorem wl_X3_96 : Cond.methodLink RX3 96 yX0_passTick ∈ lw_ws := ws_mem 397 (by decide +kernel) rfl
theorem wl_X4_17 : Cond.methodLink RX4 17 yX3_init ∈ lw_ws := ws_mem 160 (by decide +kernel) rfl
theorem wl_X4_22 : Cond.methodLink RX4 22 yX3_copyFrom ∈ lw_ws := ws_mem 276 (by decide +kernel) rfl
theorem wl_X4_3 : Cond.methodLink RX4 3 objectInit ∈ lw_ws := ws_mem 157 (by decide +kernel) rfl
theorem wl_X5_3 : Cond.methodLink RX5 3 objectInit ∈ lw_ws := ws_mem 188 (by decide +kernel) rfl
theorem wl_X6_3 : Cond.methodLink RX6 3 objectInit ∈ lw_ws := ws_mem 174 (by decide +kernel) rfl
theorem wl_L_100 : Cond.methodLink RL 100 yL_acts ∈ lw_ws := ws_mem 261 (by decide +kernel) rfl
theorem wl_L_104 : Cond.methodLink RL 104 yL_isSo ∈ lw_ws := ws_mem 468 (by decide +kernel) rfl
theorem wl_L_15 : Cond.methodLink RL 15 yL_gap ∈ lw_ws := ws_mem 360 (by decide +kernel) rfl
theorem wl_L_19 : Cond.methodLink RL 19 yL_begins ∈ lw_ws := ws_mem 357 (by decide +kernel) rfl
theorem wl_L_23 : Cond.methodLink RL 23 yL_bitsOf ∈ lw_ws := ws_mem 457 (by decide +kernel) rfl
theorem wl_L_27 : Cond.methodLink RL 27 yX7_clock ∈ lw_ws := ws_mem 268 (by decide +kernel) rfl
theorem wl_L_34 : Cond.methodLink RL 34 yX7_group ∈ lw_ws := ws_mem 415 (by decide +kernel) rfl
theorem wl_L_37 : Cond.methodLink RL 37 yX7_join ∈ lw_ws := ws_mem 428 (by decide +kernel) rfl
theorem wl_L_42 : Cond.methodLink RL 42 yX7_leave ∈ lw_ws := ws_mem 449 (by decide +kernel) rfl
theorem wl_L_47 : Cond.methodLink RL 47 yL_low ∈ lw_ws := ws_mem 257 (by decide +kernel) rfl
theorem wl_L_50 : Cond.methodLink RL 50 yL_comes ∈ lw_ws := ws_mem 265 (by decide +kernel) rfl
theorem wl_L_54 : Cond.methodLink RL 54 yX7_wind ∈ lw_ws := ws_mem 363 (by decide +kernel) rfl
theorem wl_L_57 : Cond.methodLink RL 57 yX7_passenger ∈ lw_ws := ws_mem 376 (by decide +kernel) rfl
theorem wl_L_60 : Cond.methodLink RL 60 yX7_tick ∈ lw_ws := ws_mem 384 (by decide +kernel) rfl
theorem wl_L_63 : Cond.methodLink RL 63 yL_joins ∈ lw_ws := ws_mem 412 (by decide +kernel) rfl
theorem wl_L_67 : Cond.methodLink RL 67 yL_rest ∈ lw_ws := ws_mem 461 (by decide +kernel) rfl
theorem wl_L_71 : Cond.methodLink RL 71 yL_ticks ∈ lw_ws := ws_mem 465 (by decide +kernel) rfl
theorem wl_L_75 : Cond.methodLink RL 75 yX7_clockOf ∈ lw_ws := ws_mem 474 (by decide +kernel) rfl
theorem wl_L_79 : Cond.methodLink RL 79 yX7_count ∈ lw_ws := ws_mem 222 (by decide +kernel) rfl
theorem wl_L_82 : Cond.methodLink RL 82 yX7_groupOf ∈ lw_ws := ws_mem 484 (by decide +kernel) rfl
theorem wl_L_85 : Cond.methodLink RL 85 yL_areClocks ∈ lw_ws := ws_mem 471 (by decide +kernel) rfl
theorem wl_L_89 : Cond.methodLink RL 89 yL_areGroups ∈ lw_ws := ws_mem 481 (by decide +kernel) rfl
theorem wl_L_9 : Cond.methodLink RL 9 yL_many ∈ lw_ws := ws_mem 354 (by decide +kernel) rfl
theorem wl_L_93 : Cond.methodLink RL 93 yX7_next ∈ lw_ws := ws_mem 493 (by decide +kernel) rfl
theorem wl_L_96 : Cond.methodLink RL 96 yX7_init ∈ lw_ws := ws_mem 19 (by decide +kernel) rfl
theorem wl_L_97 : Cond.methodLink RL 97 yL_cell ∈ lw_ws := ws_mem 253 (by decide +kernel) rfl
theorem wf_X7_112 : Cond.fieldLinkNest RX7 112 RX2 "law" "I" "RenewalClocks" ∈ nestW := List.mem_of_getElem? (i := 14) rfl
theorem wf_X7_117 : Cond.fieldLinkNest RX7 117 RX2 "members" "I" "RenewalClocks" ∈ nestW := List.mem_of_getElem? (i := 16) rfl
theorem wf_X7_12 : Cond.fieldLink RX7 12 RX7 "hall" "LRenewalClocks$Hall;" ∈ lw_ws := ws_mem 206 (by decide +kernel) rfl
theorem wf_X7_123 : Cond.fieldLinkNest RX7 123 RX2 "told" "I" "RenewalClocks" ∈ nestW := List.mem_of_getElem? (i := 18) rfl
theorem wf_X7_125 : Cond.fieldLinkNest RX7 125 RX2 "met" "I" "RenewalClocks" ∈ nestW := List.mem_of_getElem? (i := 19) rfl
theorem wf_X7_155 : Cond.fieldLinkNest RX7 155 RX3 "clockCount" "I" "RenewalClocks" ∈ nestW := List.mem_of_getElem? (i := 20) rfl
theorem wf_X7_158 : Cond.fieldLinkNest RX7 158 RX3 "groupCount" "I" "RenewalClocks" ∈ nestW := List.mem_of_getElem? (i := 21) rfl
theorem wf_X7_16 : Cond.fieldLink RX7 16 RX7 "trial" "LRenewalClocks$Hall;" ∈ lw_ws := ws_mem 207 (by decide +kernel) rfl
theorem wf_X7_161 : Cond.fieldLinkNest RX7 161 RX3 "now" "I" "RenewalClocks" ∈ nestW := List.mem_of_getElem? (i := 22) rfl
theorem wf_X7_164 : Cond.fieldLinkNest RX7 164 RX3 "drawn" "I" "RenewalClocks" ∈ nestW := List.mem_of_getElem? (i := 23) rfl
theorem wf_X7_173 : Cond.fieldLinkNest RX7 173 RX4 "kept" "I" "RenewalClocks" ∈ nestW := List.mem_of_getElem? (i := 24) rfl
theorem wf_X7_176 : Cond.fieldLinkNest RX7 176 RX6 "length" "I" "RenewalClocks" ∈ nestW := List.mem_of_getElem? (i := 26) rfl
theorem wf_X7_22 : Cond.fieldLink RX7 22 RX7 "history" "LRenewalClocks$History;" ∈ lw_ws := ws_mem 208 (by decide +kernel) rfl
theorem wf_X7_29 : Cond.fieldLink RX7 29 RX7 "text" "LRenewalClocks$Text;" ∈ lw_ws := ws_mem 209 (by decide +kernel) rfl
theorem wf_X7_38 : Cond.fieldLink RX7 38 RX7 "orders" "LRenewalClocks$Orders;" ∈ lw_ws := ws_mem 210 (by decide +kernel) rfl
theorem wf_X0_18 : Cond.fieldLink RX0 18 RX0 "told" "LRenewalClocks$Gaps;" ∈ lw_ws := ws_mem 81 (by decide +kernel) rfl
theorem wf_X0_22 : Cond.fieldLink RX0 22 RX0 "round" "LRenewalClocks$Gaps;" ∈ lw_ws := ws_mem 82 (by decide +kernel) rfl
theorem wf_X0_25 : Cond.fieldLink RX0 25 RX0 "law" "I" ∈ lw_ws := ws_mem 67 (by decide +kernel) rfl
theorem wf_X0_29 : Cond.fieldLink RX0 29 RX0 "place" "I" ∈ lw_ws := ws_mem 70 (by decide +kernel) rfl
theorem wf_X0_32 : Cond.fieldLink RX0 32 RX0 "gap" "I" ∈ lw_ws := ws_mem 71 (by decide +kernel) rfl
theorem wf_X0_35 : Cond.fieldLink RX0 35 RX0 "rest" "I" ∈ lw_ws := ws_mem 73 (by decide +kernel) rfl
theorem wf_X0_38 : Cond.fieldLink RX0 38 RX0 "passengers" "I" ∈ lw_ws := ws_mem 75 (by decide +kernel) rfl
theorem wf_X0_41 : Cond.fieldLink RX0 41 RX0 "waited" "I" ∈ lw_ws := ws_mem 77 (by decide +kernel) rfl
theorem wf_X0_44 : Cond.fieldLink RX0 44 RX0 "wound" "I" ∈ lw_ws := ws_mem 79 (by decide +kernel) rfl
theorem wf_X0_67 : Cond.fieldLinkNest RX0 67 RX1 "many" "I" "RenewalClocks" ∈ nestW := List.mem_of_getElem? (i := 2) rfl
theorem wf_X0_74 : Cond.fieldLinkNest RX0 74 RX1 "sum" "I" "RenewalClocks" ∈ nestW := List.mem_of_getElem? (i := 4) rfl
theorem wf_X0_78 : Cond.fieldLinkNest RX0 78 RX1 "longest" "I" "RenewalClocks" ∈ nestW := List.mem_of_getElem? (i := 5) rfl
theorem wf_X0_9 : Cond.fieldLink RX0 9 RX0 "numbers" "[I" ∈ lw_ws := ws_mem 69 (by decide +kernel) rfl
theorem wf_X1_13 : Cond.fieldLink RX1 13 RX1 "sum" "I" ∈ lw_ws := ws_mem 49 (by decide +kernel) rfl
theorem wf_X1_16 : Cond.fieldLink RX1 16 RX1 "squares" "I" ∈ lw_ws := ws_mem 51 (by decide +kernel) rfl
theorem wf_X1_19 : Cond.fieldLink RX1 19 RX1 "waits" "I" ∈ lw_ws := ws_mem 52 (by decide +kernel) rfl
theorem wf_X1_22 : Cond.fieldLink RX1 22 RX1 "longest" "I" ∈ lw_ws := ws_mem 53 (by decide +kernel) rfl
theorem wf_X1_7 : Cond.fieldLink RX1 7 RX1 "many" "I" ∈ lw_ws := ws_mem 46 (by decide +kernel) rfl
theorem wf_X2_13 : Cond.fieldLink RX2 13 RX2 "members" "I" ∈ lw_ws := ws_mem 113 (by decide +kernel) rfl
theorem wf_X2_16 : Cond.fieldLink RX2 16 RX2 "told" "I" ∈ lw_ws := ws_mem 116 (by decide +kernel) rfl
theorem wf_X2_19 : Cond.fieldLink RX2 19 RX2 "met" "I" ∈ lw_ws := ws_mem 118 (by decide +kernel) rfl
theorem wf_X2_7 : Cond.fieldLink RX2 7 RX2 "law" "I" ∈ lw_ws := ws_mem 110 (by decide +kernel) rfl
theorem wf_X3_107 : Cond.fieldLinkNest RX3 107 RX0 "passengers" "I" "RenewalClocks" ∈ nestW := List.mem_of_getElem? (i := 9) rfl
theorem wf_X3_11 : Cond.fieldLink RX3 11 RX3 "clocks" "[LRenewalClocks$Clock;" ∈ lw_ws := ws_mem 129 (by decide +kernel) rfl
theorem wf_X3_110 : Cond.fieldLinkNest RX3 110 RX0 "waited" "I" "RenewalClocks" ∈ nestW := List.mem_of_getElem? (i := 10) rfl
theorem wf_X3_113 : Cond.fieldLinkNest RX3 113 RX0 "rest" "I" "RenewalClocks" ∈ nestW := List.mem_of_getElem? (i := 8) rfl
theorem wf_X3_126 : Cond.fieldLinkNest RX3 126 RX2 "law" "I" "RenewalClocks" ∈ nestW := List.mem_of_getElem? (i := 15) rfl
theorem wf_X3_134 : Cond.fieldLinkNest RX3 134 RX2 "members" "I" "RenewalClocks" ∈ nestW := List.mem_of_getElem? (i := 17) rfl
theorem wf_X3_19 : Cond.fieldLink RX3 19 RX3 "groups" "[LRenewalClocks$Group;" ∈ lw_ws := ws_mem 132 (by decide +kernel) rfl
theorem wf_X3_23 : Cond.fieldLink RX3 23 RX3 "drawn" "I" ∈ lw_ws := ws_mem 137 (by decide +kernel) rfl
theorem wf_X3_29 : Cond.fieldLink RX3 29 RX3 "clockCount" "I" ∈ lw_ws := ws_mem 130 (by decide +kernel) rfl
theorem wf_X3_36 : Cond.fieldLink RX3 36 RX3 "groupCount" "I" ∈ lw_ws := ws_mem 133 (by decide +kernel) rfl
theorem wf_X3_42 : Cond.fieldLink RX3 42 RX3 "now" "I" ∈ lw_ws := ws_mem 135 (by decide +kernel) rfl
theorem wf_X3_62 : Cond.fieldLinkNest RX3 62 RX0 "wound" "I" "RenewalClocks" ∈ nestW := List.mem_of_getElem? (i := 11) rfl
theorem wf_X3_65 : Cond.fieldLinkNest RX3 65 RX0 "gap" "I" "RenewalClocks" ∈ nestW := List.mem_of_getElem? (i := 7) rfl
theorem wf_X3_68 : Cond.fieldLinkNest RX3 68 RX0 "law" "I" "RenewalClocks" ∈ nestW := List.mem_of_getElem? (i := 6) rfl
theorem wf_X3_71 : Cond.fieldLinkNest RX3 71 RX0 "round" "LRenewalClocks$Gaps;" "RenewalClocks" ∈ nestW := List.mem_of_getElem? (i := 12) rfl
theorem wf_X3_75 : Cond.fieldLinkNest RX3 75 RX1 "many" "I" "RenewalClocks" ∈ nestW := List.mem_of_getElem? (i := 3) rfl
theorem wf_X4_11 : Cond.fieldLink RX4 11 RX4 "slots" "[LRenewalClocks$Hall;" ∈ lw_ws := ws_mem 161 (by decide +kernel) rfl
theorem wf_X4_18 : Cond.fieldLink RX4 18 RX4 "kept" "I" ∈ lw_ws := ws_mem 162 (by decide +kernel) rfl
theorem wf_X5_15 : Cond.fieldLink RX5 15 RX5 "text" "LRenewalClocks$Text;" ∈ lw_ws := ws_mem 189 (by decide +kernel) rfl
theorem wf_X5_9 : Cond.fieldLink RX5 9 RX5 "numbers" "[I" ∈ lw_ws := ws_mem 190 (by decide +kernel) rfl
theorem wf_X6_9 : Cond.fieldLink RX6 9 RX6 "signs" "[C" ∈ lw_ws := ws_mem 175 (by decide +kernel) rfl
theorem wk_X7_77 : Cond.constant RX7 77 (-1000001) ∈ lw_ws := ws_mem 252 (by decide +kernel) rfl
theorem wk_X0_77 : Cond.constant RX0 77 (-1000004) ∈ lw_ws := ws_mem 238 (by decide +kernel) rfl
theorem wk_X3_130 : Cond.constant RX3 130 (-1000002) ∈ lw_ws := ws_mem 444 (by decide +kernel) rfl
theorem wk_X3_137 : Cond.constant RX3 137 (-1000004) ∈ lw_ws := ws_mem 247 (by decide +kernel) rfl
theorem wk_X3_49 : Cond.constant RX3 49 (-1000001) ∈ lw_ws := ws_mem 311 (by decide +kernel) rfl
theorem wk_X3_50 : Cond.constant RX3 50 (-1000003) ∈ lw_ws := ws_mem 312 (by decide +kernel) rfl
theorem wk_X3_92 : Cond.constant RX3 92 (99999) ∈ lw_ws := ws_mem 392 (by decide +kernel) rfl
theorem wk_L_33 : Cond.constant RL 33 (-1000003) ∈ lw_ws := ws_mem 353 (by decide +kernel) rfl
theorem wk_L_41 : Cond.constant RL 41 (-1000001) ∈ lw_ws := ws_mem 375 (by decide +kernel) rfl
theorem wk_L_45 : Cond.constant RL 45 (-1000002) ∈ lw_ws := ws_mem 460 (by decide +kernel) rfl
theorem wk_L_46 : Cond.constant RL 46 (10000000) ∈ lw_ws := ws_mem 264 (by decide +kernel) rfl
theorem wk_L_7 : Cond.constant RL 7 (40503) ∈ lw_ws := ws_mem 256 (by decide +kernel) rfl
theorem wk_L_70 : Cond.constant RL 70 (99999) ∈ lw_ws := ws_mem 464 (by decide +kernel) rfl
theorem wk_L_78 : Cond.constant RL 78 (-1000004) ∈ lw_ws := ws_mem 480 (by decide +kernel) rfl
theorem wk_L_8 : Cond.constant RL 8 (2147483647) ∈ lw_ws := ws_mem 260 (by decide +kernel) rfl
theorem wk_J6_265 : Cond.constant RJ6 265 (1431655765) ∈ lw_ws := ws_mem 408 (by decide +kernel) rfl
theorem wk_J6_266 : Cond.constant RJ6 266 (858993459) ∈ lw_ws := ws_mem 409 (by decide +kernel) rfl
theorem wk_J6_267 : Cond.constant RJ6 267 (252645135) ∈ lw_ws := ws_mem 410 (by decide +kernel) rfl
