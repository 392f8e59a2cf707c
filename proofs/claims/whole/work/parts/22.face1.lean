/-! the calls that change: noted, done, settled -/
set_option maxHeartbeats 4000000 in
set_option maxRecDepth 100000 in
theorem c_X7_clock (l : Launch) (g : Gm) (M : Mem) (A : AS) (hA : CA M A) (hI : AI A) (la a b c d : Int32) : Cn l yX7_clock cX7_clock 6 (some .int) 4 104 g [.ref (ad g 0), .int la, .int a, .int b, .int c, .int d] M (fun v M2 => v = some (.int (oClock A.1 la a b c d).1) ∧ CA M2 (apA A (oClock A.1 la a b c d)) ∧ AI (apA A (oClock A.1 la a b c d)) ∧ frC M M2) := by
  refine Cn.intro (lv0 := [some (.ref (ad g 0)), some (.int la), some (.int a), some (.int b), some (.int c), some (.int d)]) 0 (by decide +kernel) (Nat.le_of_ble_eq_true rfl) rfl (fun X F r => ?_)
  obtain ⟨sg, hA1, hA2, hA3, hA4, hA5, hA6⟩ := hA
  obtain ⟨t, ht, hi⟩ := hI.1
  have k0 := kd0
  have k63 := kd63
  have k1 := kd1
  refine g_aload_n (pc := 0) F dX7_clock_0 rfl ?_
  refine g_getr (pc := 1) F fl_X7_22 (by assumption) rfl dX7_clock_1 ?_
  refine g_aload_n (pc := 4) F dX7_clock_4 rfl ?_
  refine g_getr (pc := 5) F fl_X7_12 (by assumption) rfl dX7_clock_5 ?_
  refine g_callV (pc := 8) (rf2 := 3) (rl2 := 83) F cs_X7_42 k63 rfl (by decide) (by rfl) (by rfl) (Nat.le_of_ble_eq_true (by rfl)) (by decide) dX7_clock_8 (c_X4_note _ g _ sg hA5 A.2.2.1 hA3 hA4 A.1 t hA1 hi) (fun v M1 hz => ?_)
  obtain ⟨rfl, n1, f1⟩ := hz
  have g0 := slH_ge sg A.2.2.1
  have g1 := slH_lt hA5 (k := A.2.2.1) (by omega)
  have hr1 : HR M1 1 A.1 := HR_rowE hA1 hI.1 (fun a a1 a2 => f1 a (by omega))
  refine g_aload_n (pc := 11) F dX7_clock_11 rfl ?_
  refine g_aload_n (pc := 12) F dX7_clock_12 rfl ?_
  refine g_getr (pc := 13) F fl_X7_12 (by assumption) rfl dX7_clock_13 ?_
  refine g_iload_n (pc := 16) F dX7_clock_16 rfl ?_
  refine g_iload_n (pc := 17) F dX7_clock_17 rfl ?_
  refine g_iload_n (pc := 18) F dX7_clock_18 rfl ?_
  refine g_iload (pc := 19) F dX7_clock_19 rfl ?_
  refine g_iload (pc := 21) F dX7_clock_21 rfl ?_
  refine g_callV (pc := 23) (rf2 := 3) (rl2 := 68) F cs_X7_46 k1 rfl (by decide) (by rfl) (by rfl) (Nat.le_of_ble_eq_true (by rfl)) (by decide) dX7_clock_23 (c_X3_addClock _ g _ 1 k1 A.1 t hr1 hi la a b c d) (fun v M2 hz => ?_)
  obtain ⟨rfl, n2, f2⟩ := hz
  refine g_callV (pc := 26) (rf2 := 1) (rl2 := 22) F cs_X7_50 k0 rfl (by decide) (by rfl) (by rfl) (Nat.le_of_ble_eq_true (by rfl)) (by decide) dX7_clock_26 (c_X7_settle _ g _ sg ⟨fun k hk => by rw [f2 64 (by omega), f1 64 (by omega)]; exact hA5.1 k hk, hA5.2⟩ A.2.2.1 hA3 (by rw [f2 63 (by omega), f1 63 (by omega)]; exact hA4) _) (fun v M3 hz => ?_)
  obtain ⟨rfl, n3⟩ := hz
  refine g_iret (pc := 29) F r dX7_clock_29 ?_
  exact ⟨rfl, CA_apply (r := oClock A.1 la a b c d) ⟨hA1, hA2, hA3, hA4, hA5, hA6⟩ hI n1 f1 n2 f2 (ok_clock hi ht la a b c d) n3⟩

set_option maxHeartbeats 4000000 in
set_option maxRecDepth 100000 in
theorem c_X7_wind (l : Launch) (g : Gm) (M : Mem) (A : AS) (hA : CA M A) (hI : AI A) (x : Int32) : Cn l yX7_wind cX7_wind 2 (some .int) 4 104 g [.ref (ad g 0), .int x] M (fun v M2 => v = some (.int (oWind A.1 x).1) ∧ CA M2 (apA A (oWind A.1 x)) ∧ AI (apA A (oWind A.1 x)) ∧ frC M M2) := by
  refine Cn.intro (lv0 := [some (.ref (ad g 0)), some (.int x)]) 0 (by decide +kernel) (Nat.le_of_ble_eq_true rfl) rfl (fun X F r => ?_)
  obtain ⟨sg, hA1, hA2, hA3, hA4, hA5, hA6⟩ := hA
  obtain ⟨t, ht, hi⟩ := hI.1
  have k0 := kd0
  have k63 := kd63
  have k1 := kd1
  refine g_aload_n (pc := 0) F dX7_wind_0 rfl ?_
  refine g_getr (pc := 1) F fl_X7_22 (by assumption) rfl dX7_wind_1 ?_
  refine g_aload_n (pc := 4) F dX7_wind_4 rfl ?_
  refine g_getr (pc := 5) F fl_X7_12 (by assumption) rfl dX7_wind_5 ?_
  refine g_callV (pc := 8) (rf2 := 3) (rl2 := 83) F cs_X7_42 k63 rfl (by decide) (by rfl) (by rfl) (Nat.le_of_ble_eq_true (by rfl)) (by decide) dX7_wind_8 (c_X4_note _ g _ sg hA5 A.2.2.1 hA3 hA4 A.1 t hA1 hi) (fun v M1 hz => ?_)
  obtain ⟨rfl, n1, f1⟩ := hz
  have g0 := slH_ge sg A.2.2.1
  have g1 := slH_lt hA5 (k := A.2.2.1) (by omega)
  have hr1 : HR M1 1 A.1 := HR_rowE hA1 hI.1 (fun a a1 a2 => f1 a (by omega))
  refine g_aload_n (pc := 11) F dX7_wind_11 rfl ?_
  refine g_aload_n (pc := 12) F dX7_wind_12 rfl ?_
  refine g_getr (pc := 13) F fl_X7_12 (by assumption) rfl dX7_wind_13 ?_
  refine g_iload_n (pc := 16) F dX7_wind_16 rfl ?_
  refine g_callV (pc := 17) (rf2 := 2) (rl2 := 42) F cs_X7_54 k1 rfl (by decide) (by rfl) (by rfl) (Nat.le_of_ble_eq_true (by rfl)) (by decide) dX7_wind_17 (c_X3_windClock _ g _ 1 k1 A.1 t hr1 hi x) (fun v M2 hz => ?_)
  obtain ⟨rfl, n2, f2⟩ := hz
  refine g_callV (pc := 20) (rf2 := 1) (rl2 := 22) F cs_X7_50 k0 rfl (by decide) (by rfl) (by rfl) (Nat.le_of_ble_eq_true (by rfl)) (by decide) dX7_wind_20 (c_X7_settle _ g _ sg ⟨fun k hk => by rw [f2 64 (by omega), f1 64 (by omega)]; exact hA5.1 k hk, hA5.2⟩ A.2.2.1 hA3 (by rw [f2 63 (by omega), f1 63 (by omega)]; exact hA4) _) (fun v M3 hz => ?_)
  obtain ⟨rfl, n3⟩ := hz
  refine g_iret (pc := 23) F r dX7_wind_23 ?_
  exact ⟨rfl, CA_apply (r := oWind A.1 x) ⟨hA1, hA2, hA3, hA4, hA5, hA6⟩ hI n1 f1 n2 f2 (ok_wind hi ht x) n3⟩

set_option maxHeartbeats 4000000 in
set_option maxRecDepth 100000 in
theorem c_X7_tick (l : Launch) (g : Gm) (M : Mem) (A : AS) (hA : CA M A) (hI : AI A) (k : Int32) : Cn l yX7_tick cX7_tick 2 (some .int) 4 104 g [.ref (ad g 0), .int k] M (fun v M2 => v = some (.int (oTick A.1 k).1) ∧ CA M2 (apA A (oTick A.1 k)) ∧ AI (apA A (oTick A.1 k)) ∧ frC M M2) := by
  refine Cn.intro (lv0 := [some (.ref (ad g 0)), some (.int k)]) 0 (by decide +kernel) (Nat.le_of_ble_eq_true rfl) rfl (fun X F r => ?_)
  obtain ⟨sg, hA1, hA2, hA3, hA4, hA5, hA6⟩ := hA
  obtain ⟨t, ht, hi⟩ := hI.1
  have k0 := kd0
  have k63 := kd63
  have k1 := kd1
  refine g_aload_n (pc := 0) F dX7_tick_0 rfl ?_
  refine g_getr (pc := 1) F fl_X7_22 (by assumption) rfl dX7_tick_1 ?_
  refine g_aload_n (pc := 4) F dX7_tick_4 rfl ?_
  refine g_getr (pc := 5) F fl_X7_12 (by assumption) rfl dX7_tick_5 ?_
  refine g_callV (pc := 8) (rf2 := 3) (rl2 := 83) F cs_X7_42 k63 rfl (by decide) (by rfl) (by rfl) (Nat.le_of_ble_eq_true (by rfl)) (by decide) dX7_tick_8 (c_X4_note _ g _ sg hA5 A.2.2.1 hA3 hA4 A.1 t hA1 hi) (fun v M1 hz => ?_)
  obtain ⟨rfl, n1, f1⟩ := hz
  have g0 := slH_ge sg A.2.2.1
  have g1 := slH_lt hA5 (k := A.2.2.1) (by omega)
  have hr1 : HR M1 1 A.1 := HR_rowE hA1 hI.1 (fun a a1 a2 => f1 a (by omega))
  refine g_aload_n (pc := 11) F dX7_tick_11 rfl ?_
  refine g_aload_n (pc := 12) F dX7_tick_12 rfl ?_
  refine g_getr (pc := 13) F fl_X7_12 (by assumption) rfl dX7_tick_13 ?_
  refine g_iload_n (pc := 16) F dX7_tick_16 rfl ?_
  refine g_callV (pc := 17) (rf2 := 3) (rl2 := 64) F cs_X7_57 k1 rfl (by decide) (by rfl) (by rfl) (Nat.le_of_ble_eq_true (by rfl)) (by decide) dX7_tick_17 (c_X3_endTicks _ g _ 1 k1 A.1 t hr1 hi k) (fun v M2 hz => ?_)
  obtain ⟨rfl, n2, f2⟩ := hz
  refine g_callV (pc := 20) (rf2 := 1) (rl2 := 22) F cs_X7_50 k0 rfl (by decide) (by rfl) (by rfl) (Nat.le_of_ble_eq_true (by rfl)) (by decide) dX7_tick_20 (c_X7_settle _ g _ sg ⟨fun k hk => by rw [f2 64 (by omega), f1 64 (by omega)]; exact hA5.1 k hk, hA5.2⟩ A.2.2.1 hA3 (by rw [f2 63 (by omega), f1 63 (by omega)]; exact hA4) _) (fun v M3 hz => ?_)
  obtain ⟨rfl, n3⟩ := hz
  refine g_iret (pc := 23) F r dX7_tick_23 ?_
  exact ⟨rfl, CA_apply (r := oTick A.1 k) ⟨hA1, hA2, hA3, hA4, hA5, hA6⟩ hI n1 f1 n2 f2 (ok_tick hi ht k) n3⟩

set_option maxHeartbeats 4000000 in
set_option maxRecDepth 100000 in
theorem c_X7_passenger (l : Launch) (g : Gm) (M : Mem) (A : AS) (hA : CA M A) (hI : AI A) (x : Int32) : Cn l yX7_passenger cX7_passenger 2 (some .int) 4 104 g [.ref (ad g 0), .int x] M (fun v M2 => v = some (.int (oPass A.1 x).1) ∧ CA M2 (apA A (oPass A.1 x)) ∧ AI (apA A (oPass A.1 x)) ∧ frC M M2) := by
  refine Cn.intro (lv0 := [some (.ref (ad g 0)), some (.int x)]) 0 (by decide +kernel) (Nat.le_of_ble_eq_true rfl) rfl (fun X F r => ?_)
  obtain ⟨sg, hA1, hA2, hA3, hA4, hA5, hA6⟩ := hA
  obtain ⟨t, ht, hi⟩ := hI.1
  have k0 := kd0
  have k63 := kd63
  have k1 := kd1
  refine g_aload_n (pc := 0) F dX7_passenger_0 rfl ?_
  refine g_getr (pc := 1) F fl_X7_22 (by assumption) rfl dX7_passenger_1 ?_
  refine g_aload_n (pc := 4) F dX7_passenger_4 rfl ?_
  refine g_getr (pc := 5) F fl_X7_12 (by assumption) rfl dX7_passenger_5 ?_
  refine g_callV (pc := 8) (rf2 := 3) (rl2 := 83) F cs_X7_42 k63 rfl (by decide) (by rfl) (by rfl) (Nat.le_of_ble_eq_true (by rfl)) (by decide) dX7_passenger_8 (c_X4_note _ g _ sg hA5 A.2.2.1 hA3 hA4 A.1 t hA1 hi) (fun v M1 hz => ?_)
  obtain ⟨rfl, n1, f1⟩ := hz
  have g0 := slH_ge sg A.2.2.1
  have g1 := slH_lt hA5 (k := A.2.2.1) (by omega)
  have hr1 : HR M1 1 A.1 := HR_rowE hA1 hI.1 (fun a a1 a2 => f1 a (by omega))
  refine g_aload_n (pc := 11) F dX7_passenger_11 rfl ?_
  refine g_aload_n (pc := 12) F dX7_passenger_12 rfl ?_
  refine g_getr (pc := 13) F fl_X7_12 (by assumption) rfl dX7_passenger_13 ?_
  refine g_iload_n (pc := 16) F dX7_passenger_16 rfl ?_
  refine g_callV (pc := 17) (rf2 := 1) (rl2 := 21) F cs_X7_60 k1 rfl (by decide) (by rfl) (by rfl) (Nat.le_of_ble_eq_true (by rfl)) (by decide) dX7_passenger_17 (c_X3_addPassenger _ g _ 1 k1 A.1 t hr1 hi x) (fun v M2 hz => ?_)
  obtain ⟨rfl, n2, f2⟩ := hz
  refine g_callV (pc := 20) (rf2 := 1) (rl2 := 22) F cs_X7_50 k0 rfl (by decide) (by rfl) (by rfl) (Nat.le_of_ble_eq_true (by rfl)) (by decide) dX7_passenger_20 (c_X7_settle _ g _ sg ⟨fun k hk => by rw [f2 64 (by omega), f1 64 (by omega)]; exact hA5.1 k hk, hA5.2⟩ A.2.2.1 hA3 (by rw [f2 63 (by omega), f1 63 (by omega)]; exact hA4) _) (fun v M3 hz => ?_)
  obtain ⟨rfl, n3⟩ := hz
  refine g_iret (pc := 23) F r dX7_passenger_23 ?_
  exact ⟨rfl, CA_apply (r := oPass A.1 x) ⟨hA1, hA2, hA3, hA4, hA5, hA6⟩ hI n1 f1 n2 f2 (ok_pass hi ht x) n3⟩

set_option maxHeartbeats 4000000 in
set_option maxRecDepth 100000 in
theorem c_X7_group (l : Launch) (g : Gm) (M : Mem) (A : AS) (hA : CA M A) (hI : AI A) (la : Int32) : Cn l yX7_group cX7_group 2 (some .int) 4 104 g [.ref (ad g 0), .int la] M (fun v M2 => v = some (.int (oGroup A.1 la).1) ∧ CA M2 (apA A (oGroup A.1 la)) ∧ AI (apA A (oGroup A.1 la)) ∧ frC M M2) := by
  refine Cn.intro (lv0 := [some (.ref (ad g 0)), some (.int la)]) 0 (by decide +kernel) (Nat.le_of_ble_eq_true rfl) rfl (fun X F r => ?_)
  obtain ⟨sg, hA1, hA2, hA3, hA4, hA5, hA6⟩ := hA
  obtain ⟨t, ht, hi⟩ := hI.1
  have k0 := kd0
  have k63 := kd63
  have k1 := kd1
  refine g_aload_n (pc := 0) F dX7_group_0 rfl ?_
  refine g_getr (pc := 1) F fl_X7_22 (by assumption) rfl dX7_group_1 ?_
  refine g_aload_n (pc := 4) F dX7_group_4 rfl ?_
  refine g_getr (pc := 5) F fl_X7_12 (by assumption) rfl dX7_group_5 ?_
  refine g_callV (pc := 8) (rf2 := 3) (rl2 := 83) F cs_X7_42 k63 rfl (by decide) (by rfl) (by rfl) (Nat.le_of_ble_eq_true (by rfl)) (by decide) dX7_group_8 (c_X4_note _ g _ sg hA5 A.2.2.1 hA3 hA4 A.1 t hA1 hi) (fun v M1 hz => ?_)
  obtain ⟨rfl, n1, f1⟩ := hz
  have g0 := slH_ge sg A.2.2.1
  have g1 := slH_lt hA5 (k := A.2.2.1) (by omega)
  have hr1 : HR M1 1 A.1 := HR_rowE hA1 hI.1 (fun a a1 a2 => f1 a (by omega))
  refine g_aload_n (pc := 11) F dX7_group_11 rfl ?_
  refine g_aload_n (pc := 12) F dX7_group_12 rfl ?_
  refine g_getr (pc := 13) F fl_X7_12 (by assumption) rfl dX7_group_13 ?_
  refine g_iload_n (pc := 16) F dX7_group_16 rfl ?_
  refine g_callV (pc := 17) (rf2 := 1) (rl2 := 21) F cs_X7_63 k1 rfl (by decide) (by rfl) (by rfl) (Nat.le_of_ble_eq_true (by rfl)) (by decide) dX7_group_17 (c_X3_addGroup _ g _ 1 k1 A.1 t hr1 hi la) (fun v M2 hz => ?_)
  obtain ⟨rfl, n2, f2⟩ := hz
  refine g_callV (pc := 20) (rf2 := 1) (rl2 := 22) F cs_X7_50 k0 rfl (by decide) (by rfl) (by rfl) (Nat.le_of_ble_eq_true (by rfl)) (by decide) dX7_group_20 (c_X7_settle _ g _ sg ⟨fun k hk => by rw [f2 64 (by omega), f1 64 (by omega)]; exact hA5.1 k hk, hA5.2⟩ A.2.2.1 hA3 (by rw [f2 63 (by omega), f1 63 (by omega)]; exact hA4) _) (fun v M3 hz => ?_)
  obtain ⟨rfl, n3⟩ := hz
  refine g_iret (pc := 23) F r dX7_group_23 ?_
  exact ⟨rfl, CA_apply (r := oGroup A.1 la) ⟨hA1, hA2, hA3, hA4, hA5, hA6⟩ hI n1 f1 n2 f2 (ok_group hi ht la) n3⟩

set_option maxHeartbeats 4000000 in
set_option maxRecDepth 100000 in
theorem c_X7_join (l : Launch) (g : Gm) (M : Mem) (A : AS) (hA : CA M A) (hI : AI A) (gx x : Int32) : Cn l yX7_join cX7_join 3 (some .int) 4 104 g [.ref (ad g 0), .int gx, .int x] M (fun v M2 => v = some (.int (oJoin A.1 gx x).1) ∧ CA M2 (apA A (oJoin A.1 gx x)) ∧ AI (apA A (oJoin A.1 gx x)) ∧ frC M M2) := by
  refine Cn.intro (lv0 := [some (.ref (ad g 0)), some (.int gx), some (.int x)]) 0 (by decide +kernel) (Nat.le_of_ble_eq_true rfl) rfl (fun X F r => ?_)
  obtain ⟨sg, hA1, hA2, hA3, hA4, hA5, hA6⟩ := hA
  obtain ⟨t, ht, hi⟩ := hI.1
  have k0 := kd0
  have k63 := kd63
  have k1 := kd1
  refine g_aload_n (pc := 0) F dX7_join_0 rfl ?_
  refine g_getr (pc := 1) F fl_X7_22 (by assumption) rfl dX7_join_1 ?_
  refine g_aload_n (pc := 4) F dX7_join_4 rfl ?_
  refine g_getr (pc := 5) F fl_X7_12 (by assumption) rfl dX7_join_5 ?_
  refine g_callV (pc := 8) (rf2 := 3) (rl2 := 83) F cs_X7_42 k63 rfl (by decide) (by rfl) (by rfl) (Nat.le_of_ble_eq_true (by rfl)) (by decide) dX7_join_8 (c_X4_note _ g _ sg hA5 A.2.2.1 hA3 hA4 A.1 t hA1 hi) (fun v M1 hz => ?_)
  obtain ⟨rfl, n1, f1⟩ := hz
  have g0 := slH_ge sg A.2.2.1
  have g1 := slH_lt hA5 (k := A.2.2.1) (by omega)
  have hr1 : HR M1 1 A.1 := HR_rowE hA1 hI.1 (fun a a1 a2 => f1 a (by omega))
  refine g_aload_n (pc := 11) F dX7_join_11 rfl ?_
  refine g_aload_n (pc := 12) F dX7_join_12 rfl ?_
  refine g_getr (pc := 13) F fl_X7_12 (by assumption) rfl dX7_join_13 ?_
  refine g_iload_n (pc := 16) F dX7_join_16 rfl ?_
  refine g_iload_n (pc := 17) F dX7_join_17 rfl ?_
  refine g_callV (pc := 18) (rf2 := 2) (rl2 := 40) F cs_X7_66 k1 rfl (by decide) (by rfl) (by rfl) (Nat.le_of_ble_eq_true (by rfl)) (by decide) dX7_join_18 (c_X3_joinGroup _ g _ 1 k1 A.1 t hr1 hi gx x) (fun v M2 hz => ?_)
  obtain ⟨rfl, n2, f2⟩ := hz
  refine g_callV (pc := 21) (rf2 := 1) (rl2 := 22) F cs_X7_50 k0 rfl (by decide) (by rfl) (by rfl) (Nat.le_of_ble_eq_true (by rfl)) (by decide) dX7_join_21 (c_X7_settle _ g _ sg ⟨fun k hk => by rw [f2 64 (by omega), f1 64 (by omega)]; exact hA5.1 k hk, hA5.2⟩ A.2.2.1 hA3 (by rw [f2 63 (by omega), f1 63 (by omega)]; exact hA4) _) (fun v M3 hz => ?_)
  obtain ⟨rfl, n3⟩ := hz
  refine g_iret (pc := 24) F r dX7_join_24 ?_
  exact ⟨rfl, CA_apply (r := oJoin A.1 gx x) ⟨hA1, hA2, hA3, hA4, hA5, hA6⟩ hI n1 f1 n2 f2 (ok_join hi ht gx x) n3⟩

set_option maxHeartbeats 4000000 in
set_option maxRecDepth 100000 in
theorem c_X7_leave (l : Launch) (g : Gm) (M : Mem) (A : AS) (hA : CA M A) (hI : AI A) (gx x : Int32) : Cn l yX7_leave cX7_leave 3 (some .int) 4 104 g [.ref (ad g 0), .int gx, .int x] M (fun v M2 => v = some (.int (oLeave A.1 gx x).1) ∧ CA M2 (apA A (oLeave A.1 gx x)) ∧ AI (apA A (oLeave A.1 gx x)) ∧ frC M M2) := by
  refine Cn.intro (lv0 := [some (.ref (ad g 0)), some (.int gx), some (.int x)]) 0 (by decide +kernel) (Nat.le_of_ble_eq_true rfl) rfl (fun X F r => ?_)
  obtain ⟨sg, hA1, hA2, hA3, hA4, hA5, hA6⟩ := hA
  obtain ⟨t, ht, hi⟩ := hI.1
  have k0 := kd0
  have k63 := kd63
  have k1 := kd1
  refine g_aload_n (pc := 0) F dX7_leave_0 rfl ?_
  refine g_getr (pc := 1) F fl_X7_22 (by assumption) rfl dX7_leave_1 ?_
  refine g_aload_n (pc := 4) F dX7_leave_4 rfl ?_
  refine g_getr (pc := 5) F fl_X7_12 (by assumption) rfl dX7_leave_5 ?_
  refine g_callV (pc := 8) (rf2 := 3) (rl2 := 83) F cs_X7_42 k63 rfl (by decide) (by rfl) (by rfl) (Nat.le_of_ble_eq_true (by rfl)) (by decide) dX7_leave_8 (c_X4_note _ g _ sg hA5 A.2.2.1 hA3 hA4 A.1 t hA1 hi) (fun v M1 hz => ?_)
  obtain ⟨rfl, n1, f1⟩ := hz
  have g0 := slH_ge sg A.2.2.1
  have g1 := slH_lt hA5 (k := A.2.2.1) (by omega)
  have hr1 : HR M1 1 A.1 := HR_rowE hA1 hI.1 (fun a a1 a2 => f1 a (by omega))
  refine g_aload_n (pc := 11) F dX7_leave_11 rfl ?_
  refine g_aload_n (pc := 12) F dX7_leave_12 rfl ?_
  refine g_getr (pc := 13) F fl_X7_12 (by assumption) rfl dX7_leave_13 ?_
  refine g_iload_n (pc := 16) F dX7_leave_16 rfl ?_
  refine g_iload_n (pc := 17) F dX7_leave_17 rfl ?_
  refine g_callV (pc := 18) (rf2 := 2) (rl2 := 40) F cs_X7_70 k1 rfl (by decide) (by rfl) (by rfl) (Nat.le_of_ble_eq_true (by rfl)) (by decide) dX7_leave_18 (c_X3_leaveGroup _ g _ 1 k1 A.1 t hr1 hi gx x) (fun v M2 hz => ?_)
  obtain ⟨rfl, n2, f2⟩ := hz
  refine g_callV (pc := 21) (rf2 := 1) (rl2 := 22) F cs_X7_50 k0 rfl (by decide) (by rfl) (by rfl) (Nat.le_of_ble_eq_true (by rfl)) (by decide) dX7_leave_21 (c_X7_settle _ g _ sg ⟨fun k hk => by rw [f2 64 (by omega), f1 64 (by omega)]; exact hA5.1 k hk, hA5.2⟩ A.2.2.1 hA3 (by rw [f2 63 (by omega), f1 63 (by omega)]; exact hA4) _) (fun v M3 hz => ?_)
  obtain ⟨rfl, n3⟩ := hz
  refine g_iret (pc := 24) F r dX7_leave_24 ?_
  exact ⟨rfl, CA_apply (r := oLeave A.1 gx x) ⟨hA1, hA2, hA3, hA4, hA5, hA6⟩ hI n1 f1 n2 f2 (ok_leave hi ht gx x) n3⟩

/-- the orders of the text, done -/
noncomputable def oPlay (A : AS) : Int32 × SV := if (tryT A.2.2.2.1 A.2.2.2.2 A.1).2.2.1 = 0 then (nI (tryT A.2.2.2.1 A.2.2.2.2 A.1).2.1, (tryT A.2.2.2.1 A.2.2.2.2 A.1).1) else (-1000002, A.1)
noncomputable def oFault (A : AS) (w : Int32) : Int32 := if 0 ≤ w ∧ w ≤ 2 then (if (tryT A.2.2.2.1 A.2.2.2.2 A.1).2.2.1 = 0 then -1000004 else if w = 0 then nI (tryT A.2.2.2.1 A.2.2.2.2 A.1).2.2.2.1 else if w = 1 then (tryT A.2.2.2.1 A.2.2.2.2 A.1).2.2.1 else (tryT A.2.2.2.1 A.2.2.2.2 A.1).2.2.2.2) else -1000001
set_option maxHeartbeats 4000000 in
set_option maxRecDepth 100000 in
theorem c_X7_fault (l : Launch) (g : Gm) (M : Mem) (A : AS) (hA : CA M A) (hI : AI A) (w : Int32) : Cn l yX7_fault cX7_fault 2 (some .int) 6 139 g [.ref (ad g 0), .int w] M (fun v M2 => v = some (.int (oFault A w)) ∧ CA M2 A ∧ frC M M2) := by
  refine Cn.intro (lv0 := [some (.ref (ad g 0)), some (.int w)]) 0 (by decide +kernel) (Nat.le_of_ble_eq_true rfl) rfl (fun X F r => ?_)
  obtain ⟨sg, hA1, hA2, hA3, hA4, hA5, hA6⟩ := hA
  obtain ⟨t, ht, hi⟩ := hI.1
  have k0 := kd0
  have k63 := kd63
  have k1 := kd1
  have k32 := kd32
  have k222 := kd222
  refine g_iload_n (pc := 0) F dX7_fault_0 rfl ?_
  refine g_if_lt (pc := 1) (tgt := 9) F dX7_fault_1 (by decide) (fun c1 => ?_) (fun c1 => ?_)
  · refine g_ldc (pc := 9) F wk_X7_77 dX7_fault_9 ?_
    refine g_iret (pc := 11) F r dX7_fault_11 ?_
    have e : oFault A w = -1000001 := if_neg (fun q => Int32.not_lt.mpr q.1 c1)
    rw [e]
    exact ⟨rfl, ⟨sg, hA1, hA2, hA3, hA4, hA5, hA6⟩, frC.refl _⟩
  · refine g_iload_n (pc := 4) F dX7_fault_4 rfl ?_
    refine g_iconst (pc := 5) (v := 2) F dX7_fault_5 (by decide) ?_
    refine g_icmp_le (pc := 6) (tgt := 12) F dX7_fault_6 (by decide) (fun c6 => ?_) (fun c6 => ?_)
    · refine g_aload_n (pc := 12) F dX7_fault_12 rfl ?_
      refine g_getr (pc := 13) F fl_X7_38 (by assumption) rfl dX7_fault_13 ?_
      refine g_aload_n (pc := 16) F dX7_fault_16 rfl ?_
      refine g_getr (pc := 17) F fl_X7_12 (by assumption) rfl dX7_fault_17 ?_
      refine g_aload_n (pc := 20) F dX7_fault_20 rfl ?_
      refine g_getr (pc := 21) F fl_X7_16 (by assumption) rfl dX7_fault_21 ?_
      refine g_callV (pc := 24) (rf2 := 5) (rl2 := 115) F cs_X7_189 k222 rfl (by decide) (by rfl) (by rfl) (Nat.le_of_ble_eq_true (by rfl)) (by decide) dX7_fault_24 (c_X5_tryOut _ g _ _ _ hA2 hI.2.2 1 32 k1 k32 (Or.inr (by decide)) A.1 t hA1 hi ht) (fun v M1 hz => ?_)
      obtain ⟨rfl, y1, y2, y3, y4, y5, y6⟩ := hz
      have hA' : CAs M1 A sg := CAs_frame ⟨hA1, hA2, hA3, hA4, hA5, hA6⟩ hI (fun a ha => y1 a (by omega) (by omega) (by omega))
      have hfc : frC M M1 := fun a ha => y1 a (by omega) (by omega) (by omega)
      refine g_aload_n (pc := 27) F dX7_fault_27 rfl ?_
      refine g_getr (pc := 28) F fl_X7_38 (by assumption) rfl dX7_fault_28 ?_
      refine g_geti (pc := 31) F fl_X7_193 (by assumption) rfl dX7_fault_31 ?_
      refine g_if_ne (pc := 34) (tgt := 40) F dX7_fault_34 (by decide) (fun c34 => ?_) (fun c34 => ?_)
      · rw [y4] at c34
        refine g_iload_n (pc := 40) F dX7_fault_40 rfl ?_
        refine g_if_ne (pc := 41) (tgt := 52) F dX7_fault_41 (by decide) (fun c41 => ?_) (fun c41 => ?_)
        · refine g_iload_n (pc := 52) F dX7_fault_52 rfl ?_
          refine g_iconst (pc := 53) (v := 1) F dX7_fault_53 (by decide) ?_
          refine g_icmp_ne (pc := 54) (tgt := 67) F dX7_fault_54 (by decide) (fun c54 => ?_) (fun c54 => ?_)
          · refine g_aload_n (pc := 67) F dX7_fault_67 rfl ?_
            refine g_getr (pc := 68) F fl_X7_38 (by assumption) rfl dX7_fault_68 ?_
            refine g_geti (pc := 71) F fl_X7_199 (by assumption) rfl dX7_fault_71 ?_
            refine g_iret (pc := 74) F r dX7_fault_74 ?_
            have e : oFault A w = (tryT A.2.2.2.1 A.2.2.2.2 A.1).2.2.2.2 := by
              unfold oFault
              rw [if_pos ⟨Int32.not_lt.mp c1, c6⟩, if_neg c34, if_neg c41, if_neg c54]
            rw [e, (y6 c34).2]
            exact ⟨rfl, ⟨sg, hA'⟩, hfc⟩
          · refine g_aload_n (pc := 57) F dX7_fault_57 rfl ?_
            refine g_getr (pc := 58) F fl_X7_38 (by assumption) rfl dX7_fault_58 ?_
            refine g_geti (pc := 61) F fl_X7_193 (by assumption) rfl dX7_fault_61 ?_
            refine g_goto (pc := 64) (tgt := 74) F dX7_fault_64 (by decide) ?_
            refine g_iret (pc := 74) F r dX7_fault_74 ?_
            have e : oFault A w = (tryT A.2.2.2.1 A.2.2.2.2 A.1).2.2.1 := by
              unfold oFault
              rw [if_pos ⟨Int32.not_lt.mp c1, c6⟩, if_neg c34, if_neg c41, if_pos c54]
            rw [e, y4]
            exact ⟨rfl, ⟨sg, hA'⟩, hfc⟩
        · refine g_aload_n (pc := 44) F dX7_fault_44 rfl ?_
          refine g_getr (pc := 45) F fl_X7_38 (by assumption) rfl dX7_fault_45 ?_
          refine g_geti (pc := 48) F fl_X7_196 (by assumption) rfl dX7_fault_48 ?_
          refine g_iret (pc := 51) F r dX7_fault_51 ?_
          have e : oFault A w = nI (tryT A.2.2.2.1 A.2.2.2.2 A.1).2.2.2.1 := by
            unfold oFault
            rw [if_pos ⟨Int32.not_lt.mp c1, c6⟩, if_neg c34, if_pos c41]
          rw [e, (y6 c34).1]
          exact ⟨rfl, ⟨sg, hA'⟩, hfc⟩
      · rw [y4] at c34
        refine g_ldc (pc := 37) F wk_X7_150 dX7_fault_37 ?_
        refine g_iret (pc := 39) F r dX7_fault_39 ?_
        have e : oFault A w = -1000004 := by
          unfold oFault
          rw [if_pos ⟨Int32.not_lt.mp c1, c6⟩, if_pos c34]
        rw [e]
        exact ⟨rfl, ⟨sg, hA'⟩, hfc⟩
    · refine g_ldc (pc := 9) F wk_X7_77 dX7_fault_9 ?_
      refine g_iret (pc := 11) F r dX7_fault_11 ?_
      have e : oFault A w = -1000001 := if_neg (fun q => c6 q.2)
      rw [e]
      exact ⟨rfl, ⟨sg, hA1, hA2, hA3, hA4, hA5, hA6⟩, frC.refl _⟩

set_option maxHeartbeats 4000000 in
set_option maxRecDepth 100000 in
theorem c_X7_play (l : Launch) (g : Gm) (M : Mem) (A : AS) (hA : CA M A) (hI : AI A) : Cn l yX7_play cX7_play 1 (some .int) 6 139 g [.ref (ad g 0)] M (fun v M2 => v = some (.int (oPlay A).1) ∧ CA M2 (apA A (oPlay A)) ∧ AI (apA A (oPlay A)) ∧ frC M M2) := by
  refine Cn.intro (lv0 := [some (.ref (ad g 0))]) 0 (by decide +kernel) (Nat.le_of_ble_eq_true rfl) rfl (fun X F r => ?_)
  obtain ⟨sg, hA1, hA2, hA3, hA4, hA5, hA6⟩ := hA
  obtain ⟨t, ht, hi⟩ := hI.1
  have k0 := kd0
  have k63 := kd63
  have k1 := kd1
  have k32 := kd32
  have k222 := kd222
  refine g_aload_n (pc := 0) F dX7_play_0 rfl ?_
  refine g_getr (pc := 1) F fl_X7_38 (by assumption) rfl dX7_play_1 ?_
  refine g_aload_n (pc := 4) F dX7_play_4 rfl ?_
  refine g_getr (pc := 5) F fl_X7_12 (by assumption) rfl dX7_play_5 ?_
  refine g_aload_n (pc := 8) F dX7_play_8 rfl ?_
  refine g_getr (pc := 9) F fl_X7_16 (by assumption) rfl dX7_play_9 ?_
  refine g_callV (pc := 12) (rf2 := 5) (rl2 := 115) F cs_X7_189 k222 rfl (by decide) (by rfl) (by rfl) (Nat.le_of_ble_eq_true (by rfl)) (by decide) dX7_play_12 (c_X5_tryOut _ g _ _ _ hA2 hI.2.2 1 32 k1 k32 (Or.inr (by decide)) A.1 t hA1 hi ht) (fun v M1 hz => ?_)
  obtain ⟨rfl, y1, y2, y3, y4, y5, y6⟩ := hz
  have hA' : CAs M1 A sg := CAs_frame ⟨hA1, hA2, hA3, hA4, hA5, hA6⟩ hI (fun a ha => y1 a (by omega) (by omega) (by omega))
  have hfc : frC M M1 := fun a ha => y1 a (by omega) (by omega) (by omega)
  refine g_aload_n (pc := 15) F dX7_play_15 rfl ?_
  refine g_getr (pc := 16) F fl_X7_38 (by assumption) rfl dX7_play_16 ?_
  refine g_geti (pc := 19) F fl_X7_193 (by assumption) rfl dX7_play_19 ?_
  refine g_if_eq (pc := 22) (tgt := 28) F dX7_play_22 (by decide) (fun c22 => ?_) (fun c22 => ?_)
  · rw [y4] at c22
    obtain ⟨z1, z2, z3, z4, z5, z6⟩ := hA'
    obtain ⟨t', ht', hi'⟩ := y3
    have e : oPlay A = (nI (tryT A.2.2.2.1 A.2.2.2.2 A.1).2.1, (tryT A.2.2.2.1 A.2.2.2.2 A.1).1) := if_pos c22
    have hok : okR A.1 (oPlay A) := by
      rw [e]
      exact ⟨⟨t', ht', hi'⟩, Or.inl (nI_nneg (by have := (y5 c22).2; show (tryT A.2.2.2.1 A.2.2.2.2 A.1).2.1 < _; omega))⟩
    refine g_aload_n (pc := 28) F dX7_play_28 rfl ?_
    refine g_getr (pc := 29) F fl_X7_22 (by assumption) rfl dX7_play_29 ?_
    refine g_aload_n (pc := 32) F dX7_play_32 rfl ?_
    refine g_getr (pc := 33) F fl_X7_12 (by assumption) rfl dX7_play_33 ?_
    refine g_callV (pc := 36) (rf2 := 3) (rl2 := 83) F cs_X7_42 k63 rfl (by decide) (by rfl) (by rfl) (Nat.le_of_ble_eq_true (by rfl)) (by decide) dX7_play_36 (c_X4_note _ g _ sg z5 A.2.2.1 z3 z4 A.1 t z1 hi) (fun v M2 hz => ?_)
    obtain ⟨rfl, n1, f1⟩ := hz
    have g0 := slH_ge sg A.2.2.1
    have g1 := slH_lt hA5 (k := A.2.2.1) (by omega)
    have hr32 : HR M2 32 (tryT A.2.2.2.1 A.2.2.2.2 A.1).1 := HR_rowE y2 ⟨t', ht', hi'⟩ (fun a a1 a2 => f1 a (by omega))
    refine g_aload_n (pc := 39) F dX7_play_39 rfl ?_
    refine g_getr (pc := 40) F fl_X7_12 (by assumption) rfl dX7_play_40 ?_
    refine g_aload_n (pc := 43) F dX7_play_43 rfl ?_
    refine g_getr (pc := 44) F fl_X7_16 (by assumption) rfl dX7_play_44 ?_
    refine g_callV (pc := 47) (rf2 := 2) (rl2 := 61) F cs_X7_134 k1 rfl (by decide) (by rfl) (by rfl) (Nat.le_of_ble_eq_true (by rfl)) (by decide) dX7_play_47 (c_X3_copyFrom _ g _ 1 32 k1 k32 (Or.inl (by decide)) _ t' hr32 hi') (fun v M4 hz => ?_)
    obtain ⟨rfl, n2, f2⟩ := hz
    have em : M4 222 4 = nI (tryT A.2.2.2.1 A.2.2.2.2 A.1).2.1 := by rw [f2 222 (by omega), f1 222 (by omega)]; exact (y5 c22).1
    refine g_aload_n (pc := 50) F dX7_play_50 rfl ?_
    refine g_aload_n (pc := 51) F dX7_play_51 rfl ?_
    refine g_getr (pc := 52) F fl_X7_38 (by assumption) rfl dX7_play_52 ?_
    refine g_geti (pc := 55) F fl_X7_202 (by assumption) rfl dX7_play_55 ?_
    refine g_stk (st' := [.int (oPlay A).1, .ref (ad g 0)]) (by rw [em, e] <;> rfl) ?_
    refine g_callV (pc := 58) (rf2 := 1) (rl2 := 22) F cs_X7_50 k0 rfl (by decide) (by rfl) (by rfl) (Nat.le_of_ble_eq_true (by rfl)) (by decide) dX7_play_58 (c_X7_settle _ g _ sg ⟨fun k hk => by rw [f2 64 (by omega), f1 64 (by omega)]; exact z5.1 k hk, z5.2⟩ A.2.2.1 hA3 (by rw [f2 63 (by omega), f1 63 (by omega)]; exact z4) (oPlay A).1) (fun v M3 hz => ?_)
    obtain ⟨rfl, n3⟩ := hz
    refine g_iret (pc := 61) F r dX7_play_61 ?_
    have n2' : HR M4 1 (oPlay A).2 := by rw [e]; exact n2
    obtain ⟨q1, q2, q3⟩ := CA_apply (r := oPlay A) ⟨z1, z2, z3, z4, z5, z6⟩ hI n1 f1 n2' f2 hok n3
    exact ⟨rfl, q1, q2, hfc.trans q3⟩
  · rw [y4] at c22
    refine g_ldc (pc := 25) F wk_X7_183 dX7_play_25 ?_
    refine g_iret (pc := 27) F r dX7_play_27 ?_
    have e : oPlay A = (-1000002, A.1) := if_neg c22
    rw [e]
    have e2 : apA A (-1000002, A.1) = A := if_pos (show (-1000002 : Int32) < 0 by decide)
    rw [e2]
    exact ⟨rfl, ⟨sg, hA'⟩, hI, hfc⟩

