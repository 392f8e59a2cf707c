set_option maxHeartbeats 4000000 in
set_option maxRecDepth 100000 in
theorem c_X7_isLaw (l : Launch) (g : Gm) (M : Mem) (x : Int32) : Cn l yX7_isLaw cX7_isLaw 1 (some .boolean) 0 0 g [.int x] M (fun v M2 => v = some (.int (cb (lawP x))) ∧ M2 = M) := by
  refine Cn.intro (lv0 := [some (.int x)]) 0 (by decide +kernel) (Nat.le_of_ble_eq_true rfl) rfl (fun X F r => ?_)
  refine g_iload_n (pc := 0) F dX7_isLaw_0 rfl ?_
  refine g_if_lt (pc := 1) (tgt := 13) F dX7_isLaw_1 (by decide) (fun c1 => ?_) (fun c1 => ?_)
  · refine g_iconst (pc := 13) (v := 0) F dX7_isLaw_13 (by decide) ?_
    refine g_zret (pc := 14) F (by decide) r dX7_isLaw_14 ?_
    exact ⟨congrArg (fun z => some (Value.int z)) (cb_f (fun e => Int32.not_lt.mpr e.1 c1)).symm, rfl⟩
  · refine g_iload_n (pc := 4) F dX7_isLaw_4 rfl ?_
    refine g_iconst (pc := 5) (v := 2) F dX7_isLaw_5 (by decide) ?_
    refine g_icmp_gt (pc := 6) (tgt := 13) F dX7_isLaw_6 (by decide) (fun c6 => ?_) (fun c6 => ?_)
    · refine g_iconst (pc := 13) (v := 0) F dX7_isLaw_13 (by decide) ?_
      refine g_zret (pc := 14) F (by decide) r dX7_isLaw_14 ?_
      exact ⟨congrArg (fun z => some (Value.int z)) (cb_f (fun e => Int32.not_lt.mpr e.2 c6)).symm, rfl⟩
    · refine g_iconst (pc := 9) (v := 1) F dX7_isLaw_9 (by decide) ?_
      refine g_goto (pc := 10) (tgt := 14) F dX7_isLaw_10 (by decide) ?_
      refine g_zret (pc := 14) F (by decide) r dX7_isLaw_14 ?_
      exact ⟨congrArg (fun z => some (Value.int z)) (cb_t ⟨Int32.not_lt.mp c1, Int32.not_lt.mp c6⟩).symm, rfl⟩

set_option maxHeartbeats 4000000 in
set_option maxRecDepth 100000 in
theorem c_X7_isGap (l : Launch) (g : Gm) (M : Mem) (x : Int32) : Cn l yX7_isGap cX7_isGap 1 (some .boolean) 0 0 g [.int x] M (fun v M2 => v = some (.int (cb (gapP x))) ∧ M2 = M) := by
  refine Cn.intro (lv0 := [some (.int x)]) 0 (by decide +kernel) (Nat.le_of_ble_eq_true rfl) rfl (fun X F r => ?_)
  refine g_iload_n (pc := 0) F dX7_isGap_0 rfl ?_
  refine g_iconst (pc := 1) (v := 1) F dX7_isGap_1 (by decide) ?_
  refine g_icmp_lt (pc := 2) (tgt := 15) F dX7_isGap_2 (by decide) (fun c2 => ?_) (fun c2 => ?_)
  · refine g_iconst (pc := 15) (v := 0) F dX7_isGap_15 (by decide) ?_
    refine g_zret (pc := 16) F (by decide) r dX7_isGap_16 ?_
    exact ⟨congrArg (fun z => some (Value.int z)) (cb_f (fun e => Int32.not_lt.mpr e.1 c2)).symm, rfl⟩
  · refine g_iload_n (pc := 5) F dX7_isGap_5 rfl ?_
    refine g_bipush (pc := 6) (v := 50) F dX7_isGap_6 (by decide) ?_
    refine g_icmp_gt (pc := 8) (tgt := 15) F dX7_isGap_8 (by decide) (fun c8 => ?_) (fun c8 => ?_)
    · refine g_iconst (pc := 15) (v := 0) F dX7_isGap_15 (by decide) ?_
      refine g_zret (pc := 16) F (by decide) r dX7_isGap_16 ?_
      exact ⟨congrArg (fun z => some (Value.int z)) (cb_f (fun e => Int32.not_lt.mpr e.2 c8)).symm, rfl⟩
    · refine g_iconst (pc := 11) (v := 1) F dX7_isGap_11 (by decide) ?_
      refine g_goto (pc := 12) (tgt := 16) F dX7_isGap_12 (by decide) ?_
      refine g_zret (pc := 16) F (by decide) r dX7_isGap_16 ?_
      exact ⟨congrArg (fun z => some (Value.int z)) (cb_t ⟨Int32.not_lt.mp c2, Int32.not_lt.mp c8⟩).symm, rfl⟩

set_option maxHeartbeats 4000000 in
set_option maxRecDepth 100000 in
theorem c_X7_mayFollow (l : Launch) (g : Gm) (M : Mem) (x y : Int32) : Cn l yX7_mayFollow cX7_mayFollow 2 (some .boolean) 1 20 g [.int x, .int y] M (fun v M2 => v = some (.int (cb (mfP x y))) ∧ M2 = M) := by
  refine Cn.intro (lv0 := [some (.int x), some (.int y)]) 0 (by decide +kernel) (Nat.le_of_ble_eq_true rfl) rfl (fun X F r => ?_)
  refine g_iload_n (pc := 0) F dX7_mayFollow_0 rfl ?_
  refine g_if_eq (pc := 1) (tgt := 15) F dX7_mayFollow_1 (by decide) (fun c1 => ?_) (fun c1 => ?_)
  · refine g_iconst (pc := 15) (v := 1) F dX7_mayFollow_15 (by decide) ?_
    refine g_goto (pc := 16) (tgt := 20) F dX7_mayFollow_16 (by decide) ?_
    refine g_zret (pc := 20) F (by decide) r dX7_mayFollow_20 ?_
    exact ⟨congrArg (fun z => some (Value.int z)) (cb_t (Or.inl c1)).symm, rfl⟩
  · refine g_iload_n (pc := 4) F dX7_mayFollow_4 rfl ?_
    refine g_if_eq (pc := 5) (tgt := 19) F dX7_mayFollow_5 (by decide) (fun c5 => ?_) (fun c5 => ?_)
    · refine g_iconst (pc := 19) (v := 0) F dX7_mayFollow_19 (by decide) ?_
      refine g_zret (pc := 20) F (by decide) r dX7_mayFollow_20 ?_
      exact ⟨congrArg (fun z => some (Value.int z)) (cb_f (fun e => e.elim c1 (fun q => q.1 c5))).symm, rfl⟩
    · refine g_iload_n (pc := 8) F dX7_mayFollow_8 rfl ?_
      refine g_callS (pc := 9) (rf2 := 0) (rl2 := 0) F cs_X7_216 (by rfl) (by rfl) (Nat.le_of_ble_eq_true (by rfl)) (by decide) dX7_mayFollow_9 (c_X7_isGap _ g _ _) (fun v M2 hz => ?_)
      obtain ⟨rfl, h2⟩ := hz
      rw [h2]
      refine g_if_eq (pc := 12) (tgt := 19) F dX7_mayFollow_12 (by decide) (fun c12 => ?_) (fun c12 => ?_)
      · refine g_iconst (pc := 19) (v := 0) F dX7_mayFollow_19 (by decide) ?_
        refine g_zret (pc := 20) F (by decide) r dX7_mayFollow_20 ?_
        exact ⟨congrArg (fun z => some (Value.int z)) (cb_f (fun e => e.elim c1 (fun q => cb_0 c12 q.2))).symm, rfl⟩
      · refine g_iconst (pc := 15) (v := 1) F dX7_mayFollow_15 (by decide) ?_
        refine g_goto (pc := 16) (tgt := 20) F dX7_mayFollow_16 (by decide) ?_
        refine g_zret (pc := 20) F (by decide) r dX7_mayFollow_20 ?_
        exact ⟨congrArg (fun z => some (Value.int z)) (cb_t (Or.inr ⟨c5, cb_1 c12⟩)).symm, rfl⟩

set_option maxHeartbeats 4000000 in
set_option maxRecDepth 100000 in
theorem c_X7_isClock (l : Launch) (g : Gm) (M : Mem) (la a b c d : Int32) : Cn l yX7_isClock cX7_isClock 5 (some .boolean) 2 41 g [.int la, .int a, .int b, .int c, .int d] M (fun v M2 => v = some (.int (cb (clockP la a b c d))) ∧ M2 = M) := by
  refine Cn.intro (lv0 := [some (.int la), some (.int a), some (.int b), some (.int c), some (.int d)]) 0 (by decide +kernel) (Nat.le_of_ble_eq_true rfl) rfl (fun X F r => ?_)
  refine g_iload_n (pc := 0) F dX7_isClock_0 rfl ?_
  refine g_callS (pc := 1) (rf2 := 0) (rl2 := 0) F cs_X7_212 (by rfl) (by rfl) (Nat.le_of_ble_eq_true (by rfl)) (by decide) dX7_isClock_1 (c_X7_isLaw _ g _ _) (fun v M2 hz => ?_)
  obtain ⟨rfl, h2⟩ := hz
  rw [h2]
  refine g_if_eq (pc := 4) (tgt := 14) F dX7_isClock_4 (by decide) (fun c4 => ?_) (fun c4 => ?_)
  · refine g_iconst (pc := 14) (v := 0) F dX7_isClock_14 (by decide) ?_
    refine g_zret (pc := 15) F (by decide) r dX7_isClock_15 ?_
    exact ⟨congrArg (fun z => some (Value.int z)) (cb_f (fun e => cb_0 c4 e.1)).symm, rfl⟩
  · refine g_iload_n (pc := 7) F dX7_isClock_7 rfl ?_
    refine g_callS (pc := 8) (rf2 := 0) (rl2 := 0) F cs_X7_216 (by rfl) (by rfl) (Nat.le_of_ble_eq_true (by rfl)) (by decide) dX7_isClock_8 (c_X7_isGap _ g _ _) (fun v M2 hz => ?_)
    obtain ⟨rfl, h2⟩ := hz
    rw [h2]
    refine g_if_ne (pc := 11) (tgt := 16) F dX7_isClock_11 (by decide) (fun c11 => ?_) (fun c11 => ?_)
    · refine g_iload_n (pc := 16) F dX7_isClock_16 rfl ?_
      refine g_iconst (pc := 17) (v := 2) F dX7_isClock_17 (by decide) ?_
      refine g_icmp_ne (pc := 18) (tgt := 46) F dX7_isClock_18 (by decide) (fun c18 => ?_) (fun c18 => ?_)
      · refine g_iload_n (pc := 46) F dX7_isClock_46 rfl ?_
        refine g_iload_n (pc := 47) F dX7_isClock_47 rfl ?_
        refine g_callS (pc := 48) (rf2 := 1) (rl2 := 20) F cs_X7_219 (by rfl) (by rfl) (Nat.le_of_ble_eq_true (by rfl)) (by decide) dX7_isClock_48 (c_X7_mayFollow _ g _ _ _) (fun v M2 hz => ?_)
        obtain ⟨rfl, h2⟩ := hz
        rw [h2]
        refine g_if_eq (pc := 51) (tgt := 75) F dX7_isClock_51 (by decide) (fun c51 => ?_) (fun c51 => ?_)
        · refine g_iconst (pc := 75) (v := 0) F dX7_isClock_75 (by decide) ?_
          refine g_zret (pc := 76) F (by decide) r dX7_isClock_76 ?_
          exact ⟨congrArg (fun z => some (Value.int z)) (cb_f (fun e => cb_0 c51 (e.2.2.2 c18).1)).symm, rfl⟩
        · refine g_iload_n (pc := 54) F dX7_isClock_54 rfl ?_
          refine g_iload_n (pc := 55) F dX7_isClock_55 rfl ?_
          refine g_callS (pc := 56) (rf2 := 1) (rl2 := 20) F cs_X7_219 (by rfl) (by rfl) (Nat.le_of_ble_eq_true (by rfl)) (by decide) dX7_isClock_56 (c_X7_mayFollow _ g _ _ _) (fun v M2 hz => ?_)
          obtain ⟨rfl, h2⟩ := hz
          rw [h2]
          refine g_if_eq (pc := 59) (tgt := 75) F dX7_isClock_59 (by decide) (fun c59 => ?_) (fun c59 => ?_)
          · refine g_iconst (pc := 75) (v := 0) F dX7_isClock_75 (by decide) ?_
            refine g_zret (pc := 76) F (by decide) r dX7_isClock_76 ?_
            exact ⟨congrArg (fun z => some (Value.int z)) (cb_f (fun e => cb_0 c59 (e.2.2.2 c18).2.1)).symm, rfl⟩
          · refine g_iload_n (pc := 62) F dX7_isClock_62 rfl ?_
            refine g_iload (pc := 63) F dX7_isClock_63 rfl ?_
            refine g_callS (pc := 65) (rf2 := 1) (rl2 := 20) F cs_X7_219 (by rfl) (by rfl) (Nat.le_of_ble_eq_true (by rfl)) (by decide) dX7_isClock_65 (c_X7_mayFollow _ g _ _ _) (fun v M2 hz => ?_)
            obtain ⟨rfl, h2⟩ := hz
            rw [h2]
            refine g_if_eq (pc := 68) (tgt := 75) F dX7_isClock_68 (by decide) (fun c68 => ?_) (fun c68 => ?_)
            · refine g_iconst (pc := 75) (v := 0) F dX7_isClock_75 (by decide) ?_
              refine g_zret (pc := 76) F (by decide) r dX7_isClock_76 ?_
              exact ⟨congrArg (fun z => some (Value.int z)) (cb_f (fun e => cb_0 c68 (e.2.2.2 c18).2.2)).symm, rfl⟩
            · refine g_iconst (pc := 71) (v := 1) F dX7_isClock_71 (by decide) ?_
              refine g_goto (pc := 72) (tgt := 76) F dX7_isClock_72 (by decide) ?_
              refine g_zret (pc := 76) F (by decide) r dX7_isClock_76 ?_
              exact ⟨congrArg (fun z => some (Value.int z)) (cb_t ⟨cb_1 c4, cb_1 c11, fun e => absurd e c18, fun _ => ⟨cb_1 c51, cb_1 c59, cb_1 c68⟩⟩).symm, rfl⟩
      · refine g_iload_n (pc := 21) F dX7_isClock_21 rfl ?_
        refine g_callS (pc := 22) (rf2 := 0) (rl2 := 0) F cs_X7_216 (by rfl) (by rfl) (Nat.le_of_ble_eq_true (by rfl)) (by decide) dX7_isClock_22 (c_X7_isGap _ g _ _) (fun v M2 hz => ?_)
        obtain ⟨rfl, h2⟩ := hz
        rw [h2]
        refine g_if_eq (pc := 25) (tgt := 44) F dX7_isClock_25 (by decide) (fun c25 => ?_) (fun c25 => ?_)
        · refine g_iconst (pc := 44) (v := 0) F dX7_isClock_44 (by decide) ?_
          refine g_zret (pc := 45) F (by decide) r dX7_isClock_45 ?_
          exact ⟨congrArg (fun z => some (Value.int z)) (cb_f (fun e => cb_0 c25 (e.2.2.1 c18).1)).symm, rfl⟩
        · refine g_iload_n (pc := 28) F dX7_isClock_28 rfl ?_
          refine g_callS (pc := 29) (rf2 := 0) (rl2 := 0) F cs_X7_216 (by rfl) (by rfl) (Nat.le_of_ble_eq_true (by rfl)) (by decide) dX7_isClock_29 (c_X7_isGap _ g _ _) (fun v M2 hz => ?_)
          obtain ⟨rfl, h2⟩ := hz
          rw [h2]
          refine g_if_eq (pc := 32) (tgt := 44) F dX7_isClock_32 (by decide) (fun c32 => ?_) (fun c32 => ?_)
          · refine g_iconst (pc := 44) (v := 0) F dX7_isClock_44 (by decide) ?_
            refine g_zret (pc := 45) F (by decide) r dX7_isClock_45 ?_
            exact ⟨congrArg (fun z => some (Value.int z)) (cb_f (fun e => cb_0 c32 (e.2.2.1 c18).2.1)).symm, rfl⟩
          · refine g_iload (pc := 35) F dX7_isClock_35 rfl ?_
            refine g_if_ne (pc := 37) (tgt := 44) F dX7_isClock_37 (by decide) (fun c37 => ?_) (fun c37 => ?_)
            · refine g_iconst (pc := 44) (v := 0) F dX7_isClock_44 (by decide) ?_
              refine g_zret (pc := 45) F (by decide) r dX7_isClock_45 ?_
              exact ⟨congrArg (fun z => some (Value.int z)) (cb_f (fun e => c37 (e.2.2.1 c18).2.2)).symm, rfl⟩
            · refine g_iconst (pc := 40) (v := 1) F dX7_isClock_40 (by decide) ?_
              refine g_goto (pc := 41) (tgt := 45) F dX7_isClock_41 (by decide) ?_
              refine g_zret (pc := 45) F (by decide) r dX7_isClock_45 ?_
              exact ⟨congrArg (fun z => some (Value.int z)) (cb_t ⟨cb_1 c4, cb_1 c11, fun _ => ⟨cb_1 c25, cb_1 c32, c37⟩, fun e => absurd c18 e⟩).symm, rfl⟩
    · refine g_iconst (pc := 14) (v := 0) F dX7_isClock_14 (by decide) ?_
      refine g_zret (pc := 15) F (by decide) r dX7_isClock_15 ?_
      exact ⟨congrArg (fun z => some (Value.int z)) (cb_f (fun e => cb_0 c11 e.2.1)).symm, rfl⟩

set_option maxHeartbeats 4000000 in
set_option maxRecDepth 100000 in
theorem c_X3_windClock (l : Launch) (g : Gm) (M : Mem) (h : Nat) (hk : kd h = 3) (S : SV) (t : Nat) (hr : HR M h S) (hi : Inv S t) (x : Int32) : Cn l yX3_windClock cX3_windClock 3 (some .int) 2 42 g [.ref (ad g h), .int x] M (fun v M2 => v = some (.int (oWind S x).1) ∧ HR M2 h (oWind S x).2 ∧ frH M M2 h) := by
  refine Cn.intro (lv0 := [some (.ref (ad g h)), some (.int x), none]) 1 (by decide +kernel) (Nat.le_of_ble_eq_true rfl) rfl (fun X F r => ?_)
  obtain ⟨hk1, hk2, hkC, hkG⟩ := kd_hall hk
  have hn := hi.cn_le
  have hm := hi.gn_le
  refine g_aload_n (pc := 0) F dX3_windClock_0 rfl ?_
  refine g_iload_n (pc := 1) F dX3_windClock_1 rfl ?_
  refine g_callV (pc := 2) (rf2 := 0) (rl2 := 0) F cs_X3_58 (by assumption) rfl (by decide) (by rfl) (by rfl) (Nat.le_of_ble_eq_true (by rfl)) (by decide) dX3_windClock_2 (c_X3_clockAt _ g _ h hk (cn S) hn.1 (hr.1.trans hn.2) x) (fun v M2 hz => ?_)
  obtain ⟨h2, hz⟩ := hz
  rw [h2]
  rcases hz with ⟨i, hi6, hx, rfl⟩ | ⟨hno, rfl⟩
  · refine g_astore_n (pc := 5) F dX3_windClock_5 (by decide) rfl ?_
    refine g_aload_n (pc := 6) F dX3_windClock_6 rfl ?_
    refine g_ifnonnull (pc := 7) (tgt := 13) F dX3_windClock_7 (by decide) ?_
    refine g_aload_n (pc := 13) F dX3_windClock_13 rfl ?_
    refine g_aload_n (pc := 14) F dX3_windClock_14 rfl ?_
    obtain ⟨la, a, b, cc, d, p, gp, ag, sm, sq, hLI, hp5, hpN, -⟩ := hi.2.2.2.2.2.1 i hi6
    obtain ⟨xx, hxx, hx3⟩ := hi.2.2.2.2.1
    refine g_callV (pc := 15) (rf2 := 1) (rl2 := 21) F cs_X3_55 (by assumption) rfl (by decide) (by rfl) (by rfl) (Nat.le_of_ble_eq_true (by rfl)) (by decide) dX3_windClock_15 (c_X3_beginGap _ g _ h (h + 3 + 4 * i) hk (hkC i (by omega)) (by omega) _ (hr.2.2.2.2.1 i hi6) hLI hxx (hr.2.2.2.1.trans hx3) (by rw [hp5, nI_1]) (by omega)) (fun v M2 hz => ?_)
    obtain ⟨rfl, q1, q2, q3⟩ := hz
    have hkc := hkC i (by omega)
    have hB : HR M2 h (beg S i (cw S i 5 + 1)) := by
      rw [hr.2.2.2.1] at q1 q2
      exact HR_clock hr hn.1 hm.1 (by omega) q1 (fun y y1 y2 y3 y4 => q3 y y3 (by omega)) q2
    have hcb : cn (beg S i (cw S i 5 + 1)) = cn S := cn_beg _ _ _
    have hgb := gn_beg S i (cw S i 5 + 1)
    refine g_aload_n (pc := 18) F dX3_windClock_18 rfl ?_
    refine g_dup (pc := 19) F dX3_windClock_19 rfl ?_
    refine g_geti (pc := 20) F fl_X3_62 (by assumption) rfl dX3_windClock_20 ?_
    refine g_iconst (pc := 23) (v := 1) F dX3_windClock_23 (by decide) ?_
    refine g_iadd (pc := 24) F dX3_windClock_24 ?_
    refine g_puti (pc := 25) F fl_X3_62 rfl rfl (by assumption) rfl dX3_windClock_25 ?_
    refine g_aload_n (pc := 28) F dX3_windClock_28 rfl ?_
    refine g_geti (pc := 29) F fl_X3_65 (by assumption) rfl dX3_windClock_29 ?_
    refine g_iret (pc := 32) F r dX3_windClock_32 ?_
    subst hx
    have e : oWind S (nI i) = (cw (wnd S i) i 6, wnd S i) := by
      unfold oWind
      rw [if_pos (inC_of hi hi6), ixN_nI (by omega)]
    rw [e]
    have hW := CRr_wound (hB.2.2.2.2.1 i (by omega))
    have hR : HR (upd2 M2 (h + 3 + 4 * i) 7 (M2 (h + 3 + 4 * i) 7 + 1)) h (wnd S i) := by
      unfold wnd
      refine HR_clk hB (by omega) (by omega) (by omega) (fun y y1 y2 y3 => upd2_k _ _ _ (by omega)) ?_
      show CRr _ _ _ _ _
      rw [upd2_row, upd2_k _ _ _ (by omega), upd2_k _ _ _ (by omega), upd2_k _ _ _ (by omega)]
      exact hW
    refine ⟨?_, hR, fun y hy => (upd2_k _ _ _ (by omega)).trans (q3 y (by omega) (by omega))⟩
    have h6 := (hR.2.2.2.2.1 i (by
      unfold wnd cn
      rw [setC_lo _ _ _ (by decide)]
      have := hcb
      unfold cn at this
      rw [this]
      exact hi6)).2.2.2.1
    rw [h6]
  · refine g_astore_nN (pc := 5) F dX3_windClock_5 (by decide) rfl ?_
    refine g_aload_nN (pc := 6) F dX3_windClock_6 rfl ?_
    refine g_ifnonnullN (pc := 7) F dX3_windClock_7 ?_
    refine g_ldc (pc := 10) F wk_X3_49 dX3_windClock_10 ?_
    refine g_iret (pc := 12) F r dX3_windClock_12 ?_
    have e : oWind S x = (-1000001, S) := if_neg (inC_not hi hno)
    rw [e]
    exact ⟨rfl, hr, frH.refl _ _⟩

set_option maxHeartbeats 4000000 in
set_option maxRecDepth 100000 in
theorem c_X3_addPassenger (l : Launch) (g : Gm) (M : Mem) (h : Nat) (hk : kd h = 3) (S : SV) (t : Nat) (hr : HR M h S) (hi : Inv S t) (x : Int32) : Cn l yX3_addPassenger cX3_addPassenger 3 (some .int) 1 21 g [.ref (ad g h), .int x] M (fun v M2 => v = some (.int (oPass S x).1) ∧ HR M2 h (oPass S x).2 ∧ frH M M2 h) := by
  refine Cn.intro (lv0 := [some (.ref (ad g h)), some (.int x), none]) 1 (by decide +kernel) (Nat.le_of_ble_eq_true rfl) rfl (fun X F r => ?_)
  obtain ⟨hk1, hk2, hkC, hkG⟩ := kd_hall hk
  have hn := hi.cn_le
  have hm := hi.gn_le
  refine g_aload_n (pc := 0) F dX3_addPassenger_0 rfl ?_
  refine g_iload_n (pc := 1) F dX3_addPassenger_1 rfl ?_
  refine g_callV (pc := 2) (rf2 := 0) (rl2 := 0) F cs_X3_58 (by assumption) rfl (by decide) (by rfl) (by rfl) (Nat.le_of_ble_eq_true (by rfl)) (by decide) dX3_addPassenger_2 (c_X3_clockAt _ g _ h hk (cn S) hn.1 (hr.1.trans hn.2) x) (fun v M2 hz => ?_)
  obtain ⟨h2, hz⟩ := hz
  rw [h2]
  rcases hz with ⟨i, hi6, hx, rfl⟩ | ⟨hno, rfl⟩
  · refine g_astore_n (pc := 5) F dX3_addPassenger_5 (by decide) rfl ?_
    refine g_aload_n (pc := 6) F dX3_addPassenger_6 rfl ?_
    refine g_ifnonnull (pc := 7) (tgt := 13) F dX3_addPassenger_7 (by decide) ?_
    have hkc := hkC i (by omega)
    refine g_aload_n (pc := 13) F dX3_addPassenger_13 rfl ?_
    refine g_dup (pc := 14) F dX3_addPassenger_14 rfl ?_
    refine g_geti (pc := 15) F fl_X3_107 (by assumption) rfl dX3_addPassenger_15 ?_
    refine g_iconst (pc := 18) (v := 1) F dX3_addPassenger_18 (by decide) ?_
    refine g_iadd (pc := 19) F dX3_addPassenger_19 ?_
    refine g_puti (pc := 20) F fl_X3_107 rfl rfl (by assumption) rfl dX3_addPassenger_20 ?_
    refine g_aload_n (pc := 23) F dX3_addPassenger_23 rfl ?_
    refine g_dup (pc := 24) F dX3_addPassenger_24 rfl ?_
    refine g_geti (pc := 25) F fl_X3_110 (by assumption) rfl dX3_addPassenger_25 ?_
    refine g_aload_n (pc := 28) F dX3_addPassenger_28 rfl ?_
    refine g_geti (pc := 29) F fl_X3_113 (by assumption) rfl dX3_addPassenger_29 ?_
    refine g_iadd (pc := 32) F dX3_addPassenger_32 ?_
    refine g_puti (pc := 33) F fl_X3_110 rfl rfl (by assumption) rfl dX3_addPassenger_33 ?_
    refine g_aload_n (pc := 36) F dX3_addPassenger_36 rfl ?_
    refine g_geti (pc := 37) F fl_X3_113 (by assumption) rfl dX3_addPassenger_37 ?_
    refine g_iret (pc := 40) F r dX3_addPassenger_40 ?_
    subst hx
    have e : oPass S (nI i) = (cw S i 6 - cw S i 7, pasC S i) := by
      unfold oPass
      rw [if_pos (inC_of hi hi6), ixN_nI (by omega)]
    rw [e]
    have hC := hr.2.2.2.2.1 i hi6
    simp only [upd2_updr, updr_upd2, updr_self, updr_updr]
    refine ⟨?_, ?_, fun y hy => updr_ne _ _ (by omega)⟩
    · rw [upd_ne _ _ (by decide), upd_ne _ _ (by decide), hC.2.2.2.2.1]
    · unfold pasC
      refine HR_clk hr hn.1 hm.1 (by omega) (fun y y1 y2 y3 => updr_ne _ _ (by omega)) ?_
      show CRr _ _ _ _ _
      rw [updr_self, updr_ne _ _ (by omega), updr_ne _ _ (by omega), updr_ne _ _ (by omega)]
      exact CRr_pass hC
  · refine g_astore_nN (pc := 5) F dX3_addPassenger_5 (by decide) rfl ?_
    refine g_aload_nN (pc := 6) F dX3_addPassenger_6 rfl ?_
    refine g_ifnonnullN (pc := 7) F dX3_addPassenger_7 ?_
    refine g_ldc (pc := 10) F wk_X3_49 dX3_addPassenger_10 ?_
    refine g_iret (pc := 12) F r dX3_addPassenger_12 ?_
    have e : oPass S x = (-1000001, S) := if_neg (inC_not hi hno)
    rw [e]
    exact ⟨rfl, hr, frH.refl _ _⟩

theorem endsN_inv {S : SV} {t : Nat} (hi : Inv S t) : ∀ k, t + k ≤ 100200 → Inv (endsN S k).2 (t + k) := by
  intro k
  induction k with
  | zero => intro _; exact hi
  | succ k ih => intro hk; exact Inv_ends (ih (by omega)) (by omega)
theorem ticksP_nI {k : Int32} (h : ticksP k) : ∃ n, 1 ≤ n ∧ n ≤ 200 ∧ k = nI n := by
  have h0 : ¬ k < 0 := fun e => by
    have a1 := Int32.lt_iff_toInt_lt.mp e
    have a2 := Int32.le_iff_toInt_le.mp h.1
    have e0 : (0 : Int32).toInt = 0 := rfl
    have e1 : (1 : Int32).toInt = 1 := rfl
    omega
  obtain ⟨n, hn, rfl⟩ := nI_of2 (M := 200) (n := 200) rfl h0 h.2
  refine ⟨n, ?_, hn, rfl⟩
  have := h.1
  rw [nI1, nI_leI (by decide) (by omega)] at this
  exact this
set_option maxHeartbeats 4000000 in
set_option maxRecDepth 100000 in
theorem c_X3_endTicks (l : Launch) (g : Gm) (M : Mem) (h : Nat) (hk : kd h = 3) (S : SV) (t : Nat) (hr : HR M h S) (hi : Inv S t) (k : Int32) : Cn l yX3_endTicks cX3_endTicks 4 (some .int) 3 64 g [.ref (ad g h), .int k] M (fun v M2 => v = some (.int (oTick S k).1) ∧ HR M2 h (oTick S k).2 ∧ frH M M2 h) := by
  refine Cn.intro (lv0 := [some (.ref (ad g h)), some (.int k), none, none]) 2 (by decide +kernel) (Nat.le_of_ble_eq_true rfl) rfl (fun X F r => ?_)
  obtain ⟨hk1, hk2, hkC, hkG⟩ := kd_hall hk
  have hn := hi.cn_le
  have hm := hi.gn_le
  have hS2 := hr.2.2.1.trans hi.2.2.1
  refine g_iload_n (pc := 0) F dX3_endTicks_0 rfl ?_
  refine g_iconst (pc := 1) (v := 1) F dX3_endTicks_1 (by decide) ?_
  refine g_icmp_lt (pc := 2) (tgt := 12) F dX3_endTicks_2 (by decide) (fun c2 => ?_) (fun c2 => ?_)
  · refine g_ldc (pc := 12) F wk_X3_49 dX3_endTicks_12 ?_
    refine g_iret (pc := 14) F r dX3_endTicks_14 ?_
    have eO : oTick S k = (-1000001, S) := by
      unfold oTick
      exact if_neg (fun e => Int32.not_lt.mpr e.1 c2)
    rw [eO]
    exact ⟨rfl, hr, frH.refl _ _⟩
  · skip
    refine g_iload_n (pc := 5) F dX3_endTicks_5 rfl ?_
    refine g_sipush (pc := 6) (v := 200) F dX3_endTicks_6 (by decide) ?_
    refine g_icmp_le (pc := 9) (tgt := 15) F dX3_endTicks_9 (by decide) (fun c9 => ?_) (fun c9 => ?_)
    · obtain ⟨kn, k1, k2, hkn⟩ := ticksP_nI (k := k) ⟨Int32.not_lt.mp c2, c9⟩
      refine g_aload_n (pc := 15) F dX3_endTicks_15 rfl ?_
      refine g_geti (pc := 16) F fl_X3_42 (by assumption) rfl dX3_endTicks_16 ?_
      refine g_iload_n (pc := 19) F dX3_endTicks_19 rfl ?_
      refine g_iadd (pc := 20) F dX3_endTicks_20 ?_
      refine g_ldc (pc := 21) F wk_X3_92 dX3_endTicks_21 ?_
      refine g_icmp_le (pc := 23) (tgt := 29) F dX3_endTicks_23 (by decide) (fun c23 => ?_) (fun c23 => ?_)
      · rw [hr.2.2.1] at c23
        have ht1 : t + kn ≤ 99999 := by
          rw [hi.2.2.1, hkn, nI_add] at c23
          exact (nI_leI (b := 99999) (by have := hi.2.2.2.1; omega) (by decide)).mp c23
        have eO : oTick S k = endsN S kn := by
          unfold oTick
          rw [if_pos ⟨Int32.not_lt.mp c2, c9⟩, if_pos c23, hkn, ixN_nI (by omega)]
        rw [eO] at r
        have L : ∀ (n i : Nat) (x : Int32) (M1 : Mem), i + n = kn → x = nI i → HR M1 h (endsN S i).2 → frH M M1 h → G X g 4 M1 33 [some (.ref (ad g h)), some (.int k), some (.int (endsN S i).1), some (.int x)] [] := by
          intro n
          induction n with
          | zero =>
            intro i x M1 hin hx hr1 hf1
            obtain rfl : i = kn := by omega
            refine g_iload_n (pc := 33) F dX3_endTicks_33 rfl ?_
            refine g_iload_n (pc := 34) F dX3_endTicks_34 rfl ?_
            refine g_icmp_ge (pc := 35) (tgt := 51) F dX3_endTicks_35 (by decide) (fun c35 => ?_) (fun c35 => ?_)
            · refine g_iload_n (pc := 51) F dX3_endTicks_51 rfl ?_
              refine g_iret (pc := 52) F r dX3_endTicks_52 ?_
              exact ⟨rfl, hr1, hf1⟩
            · exact absurd (by rw [hx, hkn]; exact nI_le (by omega) (by omega)) c35
          | succ n ih =>
            intro i x M1 hin hx hr1 hf1
            refine g_iload_n (pc := 33) F dX3_endTicks_33 rfl ?_
            refine g_iload_n (pc := 34) F dX3_endTicks_34 rfl ?_
            refine g_icmp_ge (pc := 35) (tgt := 51) F dX3_endTicks_35 (by decide) (fun c35 => ?_) (fun c35 => ?_)
            · exact absurd c35 (by rw [hx, hkn]; exact nI_ge (by omega) (by omega))
            · refine g_iload_n (pc := 38) F dX3_endTicks_38 rfl ?_
              refine g_aload_n (pc := 39) F dX3_endTicks_39 rfl ?_
              refine g_callV (pc := 40) (rf2 := 2) (rl2 := 42) F cs_X3_93 (by assumption) rfl (by decide) (by rfl) (by rfl) (Nat.le_of_ble_eq_true (by rfl)) (by decide) dX3_endTicks_40 (c_X3_endTick _ g _ h hk _ _ hr1 (endsN_inv hi i (by omega))) (fun v M2 hz => ?_)
              obtain ⟨rfl, q1, q2⟩ := hz
              refine g_iadd (pc := 43) F dX3_endTicks_43 ?_
              refine g_istore_n (pc := 44) F dX3_endTicks_44 (by decide) rfl ?_
              refine g_iinc (pc := 45) F dX3_endTicks_45 rfl rfl (by decide) rfl ?_
              refine g_goto (pc := 48) (tgt := 33) F dX3_endTicks_48 (by decide) ?_
              exact G.sub [some (.ref (ad g h)), some (.int k), some (.int (endsN S (i + 1)).1), some (.int (x + Int32.ofInt 1))] ⟨rfl, rfl, rfl, rfl, trivial⟩ (ih (i + 1) _ _ (by omega) (by rw [hx]; exact nI_1 i) q1 (hf1.trans q2))
        refine g_iconst (pc := 29) (v := 0) F dX3_endTicks_29 (by decide) ?_
        refine g_istore_n (pc := 30) F dX3_endTicks_30 (by decide) rfl ?_
        refine g_iconst (pc := 31) (v := 0) F dX3_endTicks_31 (by decide) ?_
        refine g_istore_n (pc := 32) F dX3_endTicks_32 (by decide) rfl ?_
        exact L kn 0 _ _ (by omega) nI_0.symm hr (frH.refl _ _)
      · rw [hr.2.2.1] at c23
        refine g_ldc (pc := 26) F wk_X3_50 dX3_endTicks_26 ?_
        refine g_iret (pc := 28) F r dX3_endTicks_28 ?_
        have eO : oTick S k = (-1000003, S) := by
          unfold oTick
          rw [if_pos ⟨Int32.not_lt.mp c2, c9⟩, if_neg c23]
        rw [eO]
        exact ⟨rfl, hr, frH.refl _ _⟩
    · refine g_ldc (pc := 12) F wk_X3_49 dX3_endTicks_12 ?_
      refine g_iret (pc := 14) F r dX3_endTicks_14 ?_
      have eO : oTick S k = (-1000001, S) := by
        unfold oTick
        exact if_neg (fun e => c9 e.2)
      rw [eO]
      exact ⟨rfl, hr, frH.refl _ _⟩
