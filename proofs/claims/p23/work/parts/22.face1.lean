/-! the calls that change: noted, done, settled -/
set_option maxHeartbeats 4000000 in
set_option maxRecDepth 100000 in
theorem c_X7_clock (l : Launch) (g : Gm) (M : Mem) (A : AS) (hA : CA M A) (hI : AI A) (la a b c d : Int32) : Cn l yX7_clock cX7_clock 6 (some .int) 4 104 g [.ref (ad g 0), .int la, .int a, .int b, .int c, .int d] M (fun v M2 => v = some (.int (oClock A.1 la a b c d).1) ∧ CA M2 (apA A (oClock A.1 la a b c d)) ∧ AI (apA A (oClock A.1 la a b c d)) ∧ frC M M2) := by
  refine Cn.intro (lv0 := [some (.ref (ad g 0)), some (.int la), some (.int a), some (.int b), some (.int c), some (.int d)]) 0 (by decide +kernel) (Nat.le_of_ble_eq_true rfl) rfl (fun X F r => ?_)
  obtain ⟨sg, hA1, hA2, hA3, hA4, hA5, hA6⟩ := hA
  obtain ⟨t, ht, hi⟩ := hI.1
  have k0 := kd0
  have k63 := kd63
  have k1 := kd1
  refine g_aload_n (pc := 0) F dX7_clock_0 rfl ?_
  refine g_getr (pc := 1) F fl_X7_22 (by assumption) rfl dX7_clock_1 ?_
  refine g_aload_n (pc := 4) F dX7_clock_4 rfl ?_
  refine g_getr (pc := 5) F fl_X7_12 (by assumption) rfl dX7_clock_5 ?_
  refine g_callV (pc := 8) (rf2 := 3) (rl2 := 83) F cs_X7_42 k63 rfl (by decide) (by rfl) (by rfl) (Nat.le_of_ble_eq_true (by rfl)) (by decide) dX7_clock_8 (c_X4_note _ g _ sg hA5 A.2.2.1 hA3 hA4 A.1 t hA1 hi) (fun v M1 hz => ?_)
  obtain ⟨rfl, n1, f1⟩ := hz
  have g0 := slH_ge sg A.2.2.1
  have g1 := slH_lt hA5 (k := A.2.2.1) (by omega)
  have hr1 : HR M1 1 A.1 := HR_rowE hA1 hI.1 (fun a a1 a2 => f1 a (by omega))
  refine g_aload_n (pc := 11) F dX7_clock_11 rfl ?_
  refine g_aload_n (pc := 12) F dX7_clock_12 rfl ?_
  refine g_getr (pc := 13) F fl_X7_12 (by assumption) rfl dX7_clock_13 ?_
  refine g_iload_n (pc := 16) F dX7_clock_16 rfl ?_
  refine g_iload_n (pc := 17) F dX7_clock_17 rfl ?_
  refine g_iload_n (pc := 18) F dX7_clock_18 rfl ?_
  refine g_iload (pc := 19) F dX7_clock_19 rfl ?_
  refine g_iload (pc := 21) F dX7_clock_21 rfl ?_
  refine g_callV (pc := 23) (rf2 := 3) (rl2 := 68) F cs_X7_46 k1 rfl (by decide) (by rfl) (by rfl) (Nat.le_of_ble_eq_true (by rfl)) (by decide) dX7_clock_23 (c_X3_addClock _ g _ 1 k1 A.1 t hr1 hi la a b c d) (fun v M2 hz => ?_)
  obtain ⟨rfl, n2, f2⟩ := hz
  refine g_callV (pc := 26) (rf2 := 1) (rl2 := 22) F cs_X7_50 k0 rfl (by decide) (by rfl) (by rfl) (Nat.le_of_ble_eq_true (by rfl)) (by decide) dX7_clock_26 (c_X7_settle _ g _ sg ⟨fun k hk => by rw [f2 64 (by omega), f1 64 (by omega)]; exact hA5.1 k hk, hA5.2⟩ A.2.2.1 hA3 (by rw [f2 63 (by omega), f1 63 (by omega)]; exact hA4) _) (fun v M3 hz => ?_)
  obtain ⟨rfl, n3⟩ := hz
  refine g_iret (pc := 29) F r dX7_clock_29 ?_
  exact ⟨rfl, CA_apply (r := oClock A.1 la a b c d) ⟨hA1, hA2, hA3, hA4, hA5, hA6⟩ hI n1 f1 n2 f2 (ok_clock hi ht la a b c d) n3⟩

set_option maxHeartbeats 4000000 in
set_option maxRecDepth 100000 in
theorem c_X7_wind (l : Launch) (g : Gm) (M : Mem) (A : AS) (hA : CA M A) (hI : AI A) (x : Int32) : Cn l yX7_wind cX7_wind 2 (some .int) 4 104 g [.ref (ad g 0), .int x] M (fun v M2 => v = some (.int (oWind A.1 x).1) ∧ CA M2 (apA A (oWind A.1 x)) ∧ AI (apA A (oWind A.1 x)) ∧ frC M M2) := by
  refine Cn.intro (lv0 := [some (.ref (ad g 0)), some (.int x)]) 0 (by decide +kernel) (Nat.le_of_ble_eq_true rfl) rfl (fun X F r => ?_)
  obtain ⟨sg, hA1, hA2, hA3, hA4, hA5, hA6⟩ := hA
  obtain ⟨t, ht, hi⟩ := hI.1
  have k0 := kd0
  have k63 := kd63
  have k1 := kd1
  refine g_aload_n (pc := 0) F dX7_wind_0 rfl ?_
  refine g_getr (pc := 1) F fl_X7_22 (by assumption) rfl dX7_wind_1 ?_
  refine g_aload_n (pc := 4) F dX7_wind_4 rfl ?_
  refine g_getr (pc := 5) F fl_X7_12 (by assumption) rfl dX7_wind_5 ?_
  refine g_callV (pc := 8) (rf2 := 3) (rl2 := 83) F cs_X7_42 k63 rfl (by decide) (by rfl) (by rfl) (Nat.le_of_ble_eq_true (by rfl)) (by decide) dX7_wind_8 (c_X4_note _ g _ sg hA5 A.2.2.1 hA3 hA4 A.1 t hA1 hi) (fun v M1 hz => ?_)
  obtain ⟨rfl, n1, f1⟩ := hz
  have g0 := slH_ge sg A.2.2.1
  have g1 := slH_lt hA5 (k := A.2.2.1) (by omega)
  have hr1 : HR M1 1 A.1 := HR_rowE hA1 hI.1 (fun a a1 a2 => f1 a (by omega))
  refine g_aload_n (pc := 11) F dX7_wind_11 rfl ?_
  refine g_aload_n (pc := 12) F dX7_wind_12 rfl ?_
  refine g_getr (pc := 13) F fl_X7_12 (by assumption) rfl dX7_wind_13 ?_
  refine g_iload_n (pc := 16) F dX7_wind_16 rfl ?_
  refine g_callV (pc := 17) (rf2 := 2) (rl2 := 42) F cs_X7_54 k1 rfl (by decide) (by rfl) (by rfl) (Nat.le_of_ble_eq_true (by rfl)) (by decide) dX7_wind_17 (c_X3_windClock _ g _ 1 k1 A.1 t hr1 hi x) (fun v M2 hz => ?_)
  obtain ⟨rfl, n2, f2⟩ := hz
  refine g_callV (pc := 20) (rf2 := 1) (rl2 := 22) F cs_X7_50 k0 rfl (by decide) (by rfl) (by rfl) (Nat.le_of_ble_eq_true (by rfl)) (by decide) dX7_wind_20 (c_X7_settle _ g _ sg ⟨fun k hk => by rw [f2 64 (by omega), f1 64 (by omega)]; exact hA5.1 k hk, hA5.2⟩ A.2.2.1 hA3 (by rw [f2 63 (by omega), f1 63 (by omega)]; exact hA4) _) (fun v M3 hz => ?_)
  obtain ⟨rfl, n3⟩ := hz
  refine g_iret (pc := 23) F r dX7_wind_23 ?_
  exact ⟨rfl, CA_apply (r := oWind A.1 x) ⟨hA1, hA2, hA3, hA4, hA5, hA6⟩ hI n1 f1 n2 f2 (ok_wind hi ht x) n3⟩

set_option maxHeartbeats 4000000 in
set_option maxRecDepth 100000 in
theorem c_X7_tick (l : Launch) (g : Gm) (M : Mem) (A : AS) (hA : CA M A) (hI : AI A) (k : Int32) : Cn l yX7_tick cX7_tick 2 (some .int) 4 104 g [.ref (ad g 0), .int k] M (fun v M2 => v = some (.int (oTick A.1 k).1) ∧ CA M2 (apA A (oTick A.1 k)) ∧ AI (apA A (oTick A.1 k)) ∧ frC M M2) := by
  refine Cn.intro (lv0 := [some (.ref (ad g 0)), some (.int k)]) 0 (by decide +kernel) (Nat.le_of_ble_eq_true rfl) rfl (fun X F r => ?_)
  obtain ⟨sg, hA1, hA2, hA3, hA4, hA5, hA6⟩ := hA
  obtain ⟨t, ht, hi⟩ := hI.1
  have k0 := kd0
  have k63 := kd63
  have k1 := kd1
  refine g_aload_n (pc := 0) F dX7_tick_0 rfl ?_
  refine g_getr (pc := 1) F fl_X7_22 (by assumption) rfl dX7_tick_1 ?_
  refine g_aload_n (pc := 4) F dX7_tick_4 rfl ?_
  refine g_getr (pc := 5) F fl_X7_12 (by assumption) rfl dX7_tick_5 ?_
  refine g_callV (pc := 8) (rf2 := 3) (rl2 := 83) F cs_X7_42 k63 rfl (by decide) (by rfl) (by rfl) (Nat.le_of_ble_eq_true (by rfl)) (by decide) dX7_tick_8 (c_X4_note _ g _ sg hA5 A.2.2.1 hA3 hA4 A.1 t hA1 hi) (fun v M1 hz => ?_)
  obtain ⟨rfl, n1, f1⟩ := hz
  have g0 := slH_ge sg A.2.2.1
  have g1 := slH_lt hA5 (k := A.2.2.1) (by omega)
  have hr1 : HR M1 1 A.1 := HR_rowE hA1 hI.1 (fun a a1 a2 => f1 a (by omega))
  refine g_aload_n (pc := 11) F dX7_tick_11 rfl ?_
  refine g_aload_n (pc := 12) F dX7_tick_12 rfl ?_
  refine g_getr (pc := 13) F fl_X7_12 (by assumption) rfl dX7_tick_13 ?_
  refine g_iload_n (pc := 16) F dX7_tick_16 rfl ?_
  refine g_callV (pc := 17) (rf2 := 3) (rl2 := 64) F cs_X7_57 k1 rfl (by decide) (by rfl) (by rfl) (Nat.le_of_ble_eq_true (by rfl)) (by decide) dX7_tick_17 (c_X3_endTicks _ g _ 1 k1 A.1 t hr1 hi k) (fun v M2 hz => ?_)
  obtain ⟨rfl, n2, f2⟩ := hz
  refine g_callV (pc := 20) (rf2 := 1) (rl2 := 22) F cs_X7_50 k0 rfl (by decide) (by rfl) (by rfl) (Nat.le_of_ble_eq_true (by rfl)) (by decide) dX7_tick_20 (c_X7_settle _ g _ sg ⟨fun k hk => by rw [f2 64 (by omega), f1 64 (by omega)]; exact hA5.1 k hk, hA5.2⟩ A.2.2.1 hA3 (by rw [f2 63 (by omega), f1 63 (by omega)]; exact hA4) _) (fun v M3 hz => ?_)
  obtain ⟨rfl, n3⟩ := hz
  refine g_iret (pc := 23) F r dX7_tick_23 ?_
  exact ⟨rfl, CA_apply (r := oTick A.1 k) ⟨hA1, hA2, hA3, hA4, hA5, hA6⟩ hI n1 f1 n2 f2 (ok_tick hi ht k) n3⟩

set_option maxHeartbeats 4000000 in
set_option maxRecDepth 100000 in
theorem c_X7_passenger (l : Launch) (g : Gm) (M : Mem) (A : AS) (hA : CA M A) (hI : AI A) (x : Int32) : Cn l yX7_passenger cX7_passenger 2 (some .int) 4 104 g [.ref (ad g 0), .int x] M (fun v M2 => v = some (.int (oPass A.1 x).1) ∧ CA M2 (apA A (oPass A.1 x)) ∧ AI (apA A (oPass A.1 x)) ∧ frC M M2) := by
  refine Cn.intro (lv0 := [some (.ref (ad g 0)), some (.int x)]) 0 (by decide +kernel) (Nat.le_of_ble_eq_true rfl) rfl (fun X F r => ?_)
  obtain ⟨sg, hA1, hA2, hA3, hA4, hA5, hA6⟩ := hA
  obtain ⟨t, ht, hi⟩ := hI.1
  have k0 := kd0
  have k63 := kd63
  have k1 := kd1
  refine g_aload_n (pc := 0) F dX7_passenger_0 rfl ?_
  refine g_getr (pc := 1) F fl_X7_22 (by assumption) rfl dX7_passenger_1 ?_
  refine g_aload_n (pc := 4) F dX7_passenger_4 rfl ?_
  refine g_getr (pc := 5) F fl_X7_12 (by assumption) rfl dX7_passenger_5 ?_
  refine g_callV (pc := 8) (rf2 := 3) (rl2 := 83) F cs_X7_42 k63 rfl (by decide) (by rfl) (by rfl) (Nat.le_of_ble_eq_true (by rfl)) (by decide) dX7_passenger_8 (c_X4_note _ g _ sg hA5 A.2.2.1 hA3 hA4 A.1 t hA1 hi) (fun v M1 hz => ?_)
  obtain ⟨rfl, n1, f1⟩ := hz
  have g0 := slH_ge sg A.2.2.1
  have g1 := slH_lt hA5 (k := A.2.2.1) (by omega)
  have hr1 : HR M1 1 A.1 := HR_rowE hA1 hI.1 (fun a a1 a2 => f1 a (by omega))
  refine g_aload_n (pc := 11) F dX7_passenger_11 rfl ?_
  refine g_aload_n (pc := 12) F dX7_passenger_12 rfl ?_
  refine g_getr (pc := 13) F fl_X7_12 (by assumption) rfl dX7_passenger_13 ?_
  refine g_iload_n (pc := 16) F dX7_passenger_16 rfl ?_
  refine g_callV (pc := 17) (rf2 := 1) (rl2 := 21) F cs_X7_60 k1 rfl (by decide) (by rfl) (by rfl) (Nat.le_of_ble_eq_true (by rfl)) (by decide) dX7_passenger_17 (c_X3_addPassenger _ g _ 1 k1 A.1 t hr1 hi x) (fun v M2 hz => ?_)
  obtain ⟨rfl, n2, f2⟩ := hz
  refine g_callV (pc := 20) (rf2 := 1) (rl2 := 22) F cs_X7_50 k0 rfl (by decide) (by rfl) (by rfl) (Nat.le_of_ble_eq_true (by rfl)) (by decide) dX7_passenger_20 (c_X7_settle _ g _ sg ⟨fun k hk => by rw [f2 64 (by omega), f1 64 (by omega)]; exact hA5.1 k hk, hA5.2⟩ A.2.2.1 hA3 (by rw [f2 63 (by omega), f1 63 (by omega)]; exact hA4) _) (fun v M3 hz => ?_)
  obtain ⟨rfl, n3⟩ := hz
  refine g_iret (pc := 23) F r dX7_passenger_23 ?_
  exact ⟨rfl, CA_apply (r := oPass A.1 x) ⟨hA1, hA2, hA3, hA4, hA5, hA6⟩ hI n1 f1 n2 f2 (ok_pass hi ht x) n3⟩

set_option maxHeartbeats 4000000 in
set_option maxRecDepth 100000 in
theorem c_X7_group (l : Launch) (g : Gm) (M : Mem) (A : AS) (hA : CA M A) (hI : AI A) (la : Int32) : Cn l yX7_group cX7_group 2 (some .int) 4 104 g [.ref (ad g 0), .int la] M (fun v M2 => v = some (.int (oGroup A.1 la).1) ∧ CA M2 (apA A (oGroup A.1 la)) ∧ AI (apA A (oGroup A.1 la)) ∧ frC M M2) := by
  refine Cn.intro (lv0 := [some (.ref (ad g 0)), some (.int la)]) 0 (by decide +kernel) (Nat.le_of_ble_eq_true rfl) rfl (fun X F r => ?_)
  obtain ⟨sg, hA1, hA2, hA3, hA4, hA5, hA6⟩ := hA
  obtain ⟨t, ht, hi⟩ := hI.1
  have k0 := kd0
  have k63 := kd63
  have k1 := kd1
  refine g_aload_n (pc := 0) F dX7_group_0 rfl ?_
  refine g_getr (pc := 1) F fl_X7_22 (by assumption) rfl dX7_group_1 ?_
  refine g_aload_n (pc := 4) F dX7_group_4 rfl ?_
  refine g_getr (pc := 5) F fl_X7_12 (by assumption) rfl dX7_group_5 ?_
  refine g_callV (pc := 8) (rf2 := 3) (rl2 := 83) F cs_X7_42 k63 rfl (by decide) (by rfl) (by rfl) (Nat.le_of_ble_eq_true (by rfl)) (by decide) dX7_group_8 (c_X4_note _ g _ sg hA5 A.2.2.1 hA3 hA4 A.1 t hA1 hi) (fun v M1 hz => ?_)
  obtain ⟨rfl, n1, f1⟩ := hz
  have g0 := slH_ge sg A.2.2.1
  have g1 := slH_lt hA5 (k := A.2.2.1) (by omega)
  have hr1 : HR M1 1 A.1 := HR_rowE hA1 hI.1 (fun a a1 a2 => f1 a (by omega))
  refine g_aload_n (pc := 11) F dX7_group_11 rfl ?_
  refine g_aload_n (pc := 12) F dX7_group_12 rfl ?_
  refine g_getr (pc := 13) F fl_X7_12 (by assumption) rfl dX7_group_13 ?_
  refine g_iload_n (pc := 16) F dX7_group_16 rfl ?_
  refine g_callV (pc := 17) (rf2 := 1) (rl2 := 21) F cs_X7_63 k1 rfl (by decide) (by rfl) (by rfl) (Nat.le_of_ble_eq_true (by rfl)) (by decide) dX7_group_17 (c_X3_addGroup _ g _ 1 k1 A.1 t hr1 hi la) (fun v M2 hz => ?_)
  obtain ⟨rfl, n2, f2⟩ := hz
  refine g_callV (pc := 20) (rf2 := 1) (rl2 := 22) F cs_X7_50 k0 rfl (by decide) (by rfl) (by rfl) (Nat.le_of_ble_eq_true (by rfl)) (by decide) dX7_group_20 (c_X7_settle _ g _ sg ⟨fun k hk => by rw [f2 64 (by omega), f1 64 (by omega)]; exact hA5.1 k hk, hA5.2⟩ A.2.2.1 hA3 (by rw [f2 63 (by omega), f1 63 (by omega)]; exact hA4) _) (fun v M3 hz => ?_)
  obtain ⟨rfl, n3⟩ := hz
  refine g_iret (pc := 23) F r dX7_group_23 ?_
  exact ⟨rfl, CA_apply (r := oGroup A.1 la) ⟨hA1, hA2, hA3, hA4, hA5, hA6⟩ hI n1 f1 n2 f2 (ok_group hi ht la) n3⟩

set_option maxHeartbeats 4000000 in
set_option maxRecDepth 100000 in
theorem c_X7_join (l : Launch) (g : Gm) (M : Mem) (A : AS) (hA : CA M A) (hI : AI A) (gx x : Int32) : Cn l yX7_join cX7_join 3 (some .int) 4 104 g [.ref (ad g 0), .int gx, .int x] M (fun v M2 => v = some (.int (oJoin A.1 gx x).1) ∧ CA M2 (apA A (oJoin A.1 gx x)) ∧ AI (apA A (oJoin A.1 gx x)) ∧ frC M M2) := by
  refine Cn.intro (lv0 := [some (.ref (ad g 0)), some (.int gx), some (.int x)]) 0 (by decide +kernel) (Nat.le_of_ble_eq_true rfl) rfl (fun X F r => ?_)
  obtain ⟨sg, hA1, hA2, hA3, hA4, hA5, hA6⟩ := hA
  obtain ⟨t, ht, hi⟩ := hI.1
  have k0 := kd0
  have k63 := kd63
  have k1 := kd1
  refine g_aload_n (pc := 0) F dX7_join_0 rfl ?_
  refine g_getr (pc := 1) F fl_X7_22 (by assumption) rfl dX7_join_1 ?_
  refine g_aload_n (pc := 4) F dX7_join_4 rfl ?_
  refine g_getr (pc := 5) F fl_X7_12 (by assumption) rfl dX7_join_5 ?_
  refine g_callV (pc := 8) (rf2 := 3) (rl2 := 83) F cs_X7_42 k63 rfl (by decide) (by rfl) (by rfl) (Nat.le_of_ble_eq_true (by rfl)) (by decide) dX7_join_8 (c_X4_note _ g _ sg hA5 A.2.2.1 hA3 hA4 A.1 t hA1 hi) (fun v M1 hz => ?_)
  obtain ⟨rfl, n1, f1⟩ := hz
  have g0 := slH_ge sg A.2.2.1
  have g1 := slH_lt hA5 (k := A.2.2.1) (by omega)
  have hr1 : HR M1 1 A.1 := HR_rowE hA1 hI.1 (fun a a1 a2 => f1 a (by omega))
  refine g_aload_n (pc := 11) F dX7_join_11 rfl ?_
  refine g_aload_n (pc := 12) F dX7_join_12 rfl ?_
  refine g_getr (pc := 13) F fl_X7_12 (by assumption) rfl dX7_join_13 ?_
  refine g_iload_n (pc := 16) F dX7_join_16 rfl ?_
  refine g_iload_n (pc := 17) F dX7_join_17 rfl ?_
  refine g_callV (pc := 18) (rf2 := 2) (rl2 := 40) F cs_X7_66 k1 rfl (by decide) (by rfl) (by rfl) (Nat.le_of_ble_eq_true (by rfl)) (by decide) dX7_join_18 (c_X3_joinGroup _ g _ 1 k1 A.1 t hr1 hi gx x) (fun v M2 hz => ?_)
  obtain ⟨rfl, n2, f2⟩ := hz
  refine g_callV (pc := 21) (rf2 := 1) (rl2 := 22) F cs_X7_50 k0 rfl (by decide) (by rfl) (by rfl) (Nat.le_of_ble_eq_true (by rfl)) (by decide) dX7_join_21 (c_X7_settle _ g _ sg ⟨fun k hk => by rw [f2 64 (by omega), f1 64 (by omega)]; exact hA5.1 k hk, hA5.2⟩ A.2.2.1 hA3 (by rw [f2 63 (by omega), f1 63 (by omega)]; exact hA4) _) (fun v M3 hz => ?_)
  obtain ⟨rfl, n3⟩ := hz
  refine g_iret (pc := 24) F r dX7_join_24 ?_
  exact ⟨rfl, CA_apply (r := oJoin A.1 gx x) ⟨hA1, hA2, hA3, hA4, hA5, hA6⟩ hI n1 f1 n2 f2 (ok_join hi ht gx x) n3⟩

set_option maxHeartbeats 4000000 in
set_option maxRecDepth 100000 in
theorem c_X7_leave (l : Launch) (g : Gm) (M : Mem) (A : AS) (hA : CA M A) (hI : AI A) (gx x : Int32) : Cn l yX7_leave cX7_leave 3 (some .int) 4 104 g [.ref (ad g 0), .int gx, .int x] M (fun v M2 => v = some (.int (oLeave A.1 gx x).1) ∧ CA M2 (apA A (oLeave A.1 gx x)) ∧ AI (apA A (oLeave A.1 gx x)) ∧ frC M M2) := by
  refine Cn.intro (lv0 := [some (.ref (ad g 0)), some (.int gx), some (.int x)]) 0 (by decide +kernel) (Nat.le_of_ble_eq_true rfl) rfl (fun X F r => ?_)
  obtain ⟨sg, hA1, hA2, hA3, hA4, hA5, hA6⟩ := hA
  obtain ⟨t, ht, hi⟩ := hI.1
  have k0 := kd0
  have k63 := kd63
  have k1 := kd1
  refine g_aload_n (pc := 0) F dX7_leave_0 rfl ?_
  refine g_getr (pc := 1) F fl_X7_22 (by assumption) rfl dX7_leave_1 ?_
  refine g_aload_n (pc := 4) F dX7_leave_4 rfl ?_
  refine g_getr (pc := 5) F fl_X7_12 (by assumption) rfl dX7_leave_5 ?_
  refine g_callV (pc := 8) (rf2 := 3) (rl2 := 83) F cs_X7_42 k63 rfl (by decide) (by rfl) (by rfl) (Nat.le_of_ble_eq_true (by rfl)) (by decide) dX7_leave_8 (c_X4_note _ g _ sg hA5 A.2.2.1 hA3 hA4 A.1 t hA1 hi) (fun v M1 hz => ?_)
  obtain ⟨rfl, n1, f1⟩ := hz
  have g0 := slH_ge sg A.2.2.1
  have g1 := slH_lt hA5 (k := A.2.2.1) (by omega)
  have hr1 : HR M1 1 A.1 := HR_rowE hA1 hI.1 (fun a a1 a2 => f1 a (by omega))
  refine g_aload_n (pc := 11) F dX7_leave_11 rfl ?_
  refine g_aload_n (pc := 12) F dX7_leave_12 rfl ?_
  refine g_getr (pc := 13) F fl_X7_12 (by assumption) rfl dX7_leave_13 ?_
  refine g_iload_n (pc := 16) F dX7_leave_16 rfl ?_
  refine g_iload_n (pc := 17) F dX7_leave_17 rfl ?_
  refine g_callV (pc := 18) (rf2 := 2) (rl2 := 40) F cs_X7_70 k1 rfl (by decide) (by rfl) (by rfl) (Nat.le_of_ble_eq_true (by rfl)) (by decide) dX7_leave_18 (c_X3_leaveGroup _ g _ 1 k1 A.1 t hr1 hi gx x) (fun v M2 hz => ?_)
  obtain ⟨rfl, n2, f2⟩ := hz
  refine g_callV (pc := 21) (rf2 := 1) (rl2 := 22) F cs_X7_50 k0 rfl (by decide) (by rfl) (by rfl) (Nat.le_of_ble_eq_true (by rfl)) (by decide) dX7_leave_21 (c_X7_settle _ g _ sg ⟨fun k hk => by rw [f2 64 (by omega), f1 64 (by omega)]; exact hA5.1 k hk, hA5.2⟩ A.2.2.1 hA3 (by rw [f2 63 (by omega), f1 63 (by omega)]; exact hA4) _) (fun v M3 hz => ?_)
  obtain ⟨rfl, n3⟩ := hz
  refine g_iret (pc := 24) F r dX7_leave_24 ?_
  exact ⟨rfl, CA_apply (r := oLeave A.1 gx x) ⟨hA1, hA2, hA3, hA4, hA5, hA6⟩ hI n1 f1 n2 f2 (ok_leave hi ht gx x) n3⟩
