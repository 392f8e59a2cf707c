/-! the check: the calls that change -/
def MOK (M : Mem) (pn : Nat) (r : Int32 × SV) (M2 : Mem) : Prop := (r.1 < 0 ∧ M2 = M) ∨ (¬ r.1 < 0 ∧ ∃ M1, CHG M pn M1 ∧ M2 = updr M1 225 r.2)
theorem negc {v : Int32} {S : SV} (h : v < 0) : ((v, S) : Int32 × SV).1 < 0 := h
theorem memC0' (M : Mem) (S : SV) (i : Nat) : updr M 225 S = updr M 225 (setC S i (cw S i)) := by rw [setC_cw]
theorem CHG.s {M M1 : Mem} {pn : Nat} (h : CHG M pn M1) : M1 225 = M 225 := h.1 225 (by decide) (by decide)
theorem wnd_gap {S : SV} {t : Nat} (hi : Inv S t) (ht : t ≤ 99999) {i : Nat} (h : i < cn S) : ¬ cw (wnd S i) i 6 < 0 := by
  obtain ⟨⟨t', -, h'⟩, -⟩ := ok_wind hi ht (nI i)
  have e : oWind S (nI i) = (cw (wnd S i) i 6, wnd S i) := by
    unfold oWind
    rw [if_pos (inC_of hi h), ixN_nI (by have := hi.cn_le.1; omega)]
  rw [e] at h'
  have hc : cn (wnd S i) = cn S := by
    unfold wnd
    unfold cn
    rw [setC_lo _ _ _ (by decide)]
    exact cn_beg S i _
  obtain ⟨la, a, b, c, d, p, gp, ag, sm, sq, -, -, -, h6, g1, g2, -⟩ := h'.2.2.2.2.2.1 i (by rw [hc]; exact h)
  have h6' : cw (wnd S i) i 6 = nI gp := h6
  rw [h6']
  exact nI_nneg (by omega)
set_option maxHeartbeats 4000000 in
set_option maxRecDepth 100000 in
theorem c_X8_wind (l : Launch) (g : Gm) (M : Mem) (t : Nat) (hi : Inv (M 225) t) (ht : t ≤ 99999) (pn : Nat) (hpn4 : pn ≤ 4) (hpn : M 224 4 = nI pn) (hr : M 224 5 = 0 ∨ M 224 5 = 1) (x : Int32) : Cn l yX8_wind cX8_wind 2 (some .int) 3 68 g [.ref (ad g 224), .int x] M (fun v M2 => v = some (.int (oWind (M 225) x).1) ∧ MOK M pn (oWind (M 225) x) M2) := by
  refine Cn.intro (lv0 := [some (.ref (ad g 224)), some (.int x)]) 0 (by decide +kernel) (Nat.le_of_ble_eq_true rfl) rfl (fun X F r => ?_)
  have k224 := kd224
  have k225 := kd225
  have hn := hi.cn_le
  have hm := hi.gn_le
  refine g_aload_n (pc := 0) F dX8_wind_0 rfl ?_
  refine g_iload_n (pc := 1) F dX8_wind_1 rfl ?_
  refine g_callV (pc := 2) (rf2 := 0) (rl2 := 0) F cs_X8_93 k224 rfl (by decide) (by rfl) (by rfl) (Nat.le_of_ble_eq_true (by rfl)) (by decide) dX8_wind_2 (c_X8_isClock _ g _ x) (fun v M2 hz => ?_)
  obtain ⟨rfl, h2⟩ := hz
  rw [h2]
  refine g_if_ne (pc := 5) (tgt := 11) F dX8_wind_5 (by decide) (fun c5 => ?_) (fun c5 => ?_)
  · obtain ⟨i, hin, hx⟩ := inC_ex hi (b2i_1 c5)
    obtain ⟨la, a, b, c, d, p, gp, ag, sm, sq, hL, h5, hp, -⟩ := hi.2.2.2.2.2.1 i hin
    have hNP := NP_bound (la := la) (b := b) (c := c) (d := d) hL.2.2.2.2.2.2.2.2.1
    obtain ⟨xx, hxx, hx3⟩ := hi.2.2.2.2.1
    refine g_aload_n (pc := 11) F dX8_wind_11 rfl ?_
    refine g_callV (pc := 12) (rf2 := 0) (rl2 := 0) F cs_X8_90 k224 rfl (by decide) (by rfl) (by rfl) (Nat.le_of_ble_eq_true (by rfl)) (by decide) dX8_wind_12 (c_X8_changes _ g _ pn hpn4 hpn hr) (fun v M1 hz => ?_)
    obtain ⟨rfl, hch⟩ := hz
    have e225 := hch.s
    refine g_aload_n (pc := 15) F dX8_wind_15 rfl ?_
    refine g_iload_n (pc := 16) F dX8_wind_16 rfl ?_
    refine g_aload_n (pc := 17) F dX8_wind_17 rfl ?_
    refine g_iload_n (pc := 18) F dX8_wind_18 rfl ?_
    refine g_iconst (pc := 19) (v := 5) F dX8_wind_19 (by decide) ?_
    refine g_stk (st' := [.int (nI 5), .int (nI i), .ref (ad g 224), .int (nI i), .ref (ad g 224)]) (by rw [hx] <;> rfl) ?_
    refine g_callV (pc := 20) (rf2 := 0) (rl2 := 0) F cs_X8_36 k224 rfl (by decide) (by rfl) (by rfl) (Nat.le_of_ble_eq_true (by rfl)) (by decide) dX8_wind_20 (c_X8_of _ g _ i (by omega) 5 (by decide)) (fun v M2 hz => ?_)
    obtain ⟨rfl, h2⟩ := hz
    rw [h2, e225, show M 225 (4 + 15 * i + 5) = nI p from h5]
    refine g_iconst (pc := 23) (v := 1) F dX8_wind_23 (by decide) ?_
    refine g_iadd (pc := 24) F dX8_wind_24 ?_
    refine g_stk (st' := [.int (nI (p + 1)), .int (nI i), .ref (ad g 224)]) (by rw [nI_1] <;> rfl) ?_
    refine g_callV (pc := 25) (rf2 := 2) (rl2 := 45) F cs_X8_57 k224 rfl (by decide) (by rfl) (by rfl) (Nat.le_of_ble_eq_true (by rfl)) (by decide) dX8_wind_25 (c_X8_begins _ g _ i (by omega) la a b c d xx (p + 1) (by rw [e225]; exact hL) hxx (by rw [e225]; exact hx3) (by omega)) (fun v M2 hz => ?_)
    obtain ⟨rfl, h2⟩ := hz
    rw [h2, e225]
    refine G.mem (memC0' M1 _ i) ?_
    refine g_aload_n (pc := 28) F dX8_wind_28 rfl ?_
    refine g_iload_n (pc := 29) F dX8_wind_29 rfl ?_
    refine g_bipush (pc := 30) (v := 14) F dX8_wind_30 (by decide) ?_
    refine g_iconst (pc := 32) (v := 1) F dX8_wind_32 (by decide) ?_
    refine g_stk (st' := [.int 1, .int (nI 14), .int (nI i), .ref (ad g 224)]) (by rw [hx] <;> rfl) ?_
    refine g_callV (pc := 33) (rf2 := 0) (rl2 := 0) F cs_X8_54 k224 rfl (by decide) (by rfl) (by rfl) (Nat.le_of_ble_eq_true (by rfl)) (by decide) dX8_wind_33 (c_X8_adds _ g _ i (by omega) 14 (by decide) 1) (fun v M2 hz => ?_)
    obtain ⟨rfl, h2⟩ := hz
    rw [h2, memCr (q := 14) _ _ _ _ (by decide), memC (q := 14) _ _ _ _ (by decide)]
    refine g_aload_n (pc := 36) F dX8_wind_36 rfl ?_
    refine g_iload_n (pc := 37) F dX8_wind_37 rfl ?_
    refine g_bipush (pc := 38) (v := 6) F dX8_wind_38 (by decide) ?_
    refine g_stk (st' := [.int (nI 6), .int (nI i), .ref (ad g 224)]) (by rw [hx] <;> rfl) ?_
    refine g_callV (pc := 40) (rf2 := 0) (rl2 := 0) F cs_X8_36 k224 rfl (by decide) (by rfl) (by rfl) (Nat.le_of_ble_eq_true (by rfl)) (by decide) dX8_wind_40 (c_X8_of _ g _ i (by omega) 6 (by decide)) (fun v M2 hz => ?_)
    obtain ⟨rfl, h2⟩ := hz
    rw [h2]
    refine g_iret (pc := 43) F r dX8_wind_43 ?_
    have e : oWind (M 225) x = (cw (wnd (M 225) i) i 6, wnd (M 225) i) := by
      unfold oWind
      rw [if_pos (b2i_1 c5), hx, ixN_nI (by omega)]
    have ew : setC (beg (M 225) i (nI (p + 1))) i (upd (cw (beg (M 225) i (nI (p + 1))) i) 14 (cw (beg (M 225) i (nI (p + 1))) i 14 + 1)) = wnd (M 225) i := by
      unfold wnd
      rw [h5, nI_1]
    rw [e, ew, updr_self]
    exact ⟨rfl, Or.inr ⟨wnd_gap hi ht hin, M1, hch, rfl⟩⟩
  · have hno := b2i_0 c5
    refine g_ldc (pc := 8) F wk_X8_88 dX8_wind_8 ?_
    refine g_iret (pc := 10) F r dX8_wind_10 ?_
    have e : oWind (M 225) x = (-1000001, M 225) := if_neg hno
    rw [e]
    exact ⟨rfl, Or.inl ⟨negc (by decide), rfl⟩⟩

set_option maxHeartbeats 4000000 in
set_option maxRecDepth 100000 in
theorem c_X8_passenger (l : Launch) (g : Gm) (M : Mem) (t : Nat) (hi : Inv (M 225) t) (ht : t ≤ 99999) (pn : Nat) (hpn4 : pn ≤ 4) (hpn : M 224 4 = nI pn) (hr : M 224 5 = 0 ∨ M 224 5 = 1) (x : Int32) : Cn l yX8_passenger cX8_passenger 2 (some .int) 2 43 g [.ref (ad g 224), .int x] M (fun v M2 => v = some (.int (oPass (M 225) x).1) ∧ MOK M pn (oPass (M 225) x) M2) := by
  refine Cn.intro (lv0 := [some (.ref (ad g 224)), some (.int x)]) 0 (by decide +kernel) (Nat.le_of_ble_eq_true rfl) rfl (fun X F r => ?_)
  have k224 := kd224
  have k225 := kd225
  have hn := hi.cn_le
  have hm := hi.gn_le
  refine g_aload_n (pc := 0) F dX8_passenger_0 rfl ?_
  refine g_iload_n (pc := 1) F dX8_passenger_1 rfl ?_
  refine g_callV (pc := 2) (rf2 := 0) (rl2 := 0) F cs_X8_93 k224 rfl (by decide) (by rfl) (by rfl) (Nat.le_of_ble_eq_true (by rfl)) (by decide) dX8_passenger_2 (c_X8_isClock _ g _ x) (fun v M2 hz => ?_)
  obtain ⟨rfl, h2⟩ := hz
  rw [h2]
  refine g_if_ne (pc := 5) (tgt := 11) F dX8_passenger_5 (by decide) (fun c5 => ?_) (fun c5 => ?_)
  · obtain ⟨i, hin, hx⟩ := inC_ex hi (b2i_1 c5)
    obtain ⟨la, a, b, c, d, p, gp, ag, sm, sq, hL, h5, hp, h6, g1, g2, h7, ga, -⟩ := hi.2.2.2.2.2.1 i hin
    refine g_aload_n (pc := 11) F dX8_passenger_11 rfl ?_
    refine g_callV (pc := 12) (rf2 := 0) (rl2 := 0) F cs_X8_90 k224 rfl (by decide) (by rfl) (by rfl) (Nat.le_of_ble_eq_true (by rfl)) (by decide) dX8_passenger_12 (c_X8_changes _ g _ pn hpn4 hpn hr) (fun v M1 hz => ?_)
    obtain ⟨rfl, hch⟩ := hz
    have e225 := hch.s
    refine G.mem (memC0 M1 i) ?_
    rw [e225]
    refine g_aload_n (pc := 15) F dX8_passenger_15 rfl ?_
    refine g_iload_n (pc := 16) F dX8_passenger_16 rfl ?_
    refine g_bipush (pc := 17) (v := 12) F dX8_passenger_17 (by decide) ?_
    refine g_iconst (pc := 19) (v := 1) F dX8_passenger_19 (by decide) ?_
    refine g_stk (st' := [.int 1, .int (nI 12), .int (nI i), .ref (ad g 224)]) (by rw [hx] <;> rfl) ?_
    refine g_callV (pc := 20) (rf2 := 0) (rl2 := 0) F cs_X8_54 k224 rfl (by decide) (by rfl) (by rfl) (Nat.le_of_ble_eq_true (by rfl)) (by decide) dX8_passenger_20 (c_X8_adds _ g _ i (by omega) 12 (by decide) 1) (fun v M2 hz => ?_)
    obtain ⟨rfl, h2⟩ := hz
    rw [h2, memCr (q := 12) _ _ _ _ (by decide), memC (q := 12) _ _ _ _ (by decide)]
    refine g_aload_n (pc := 23) F dX8_passenger_23 rfl ?_
    refine g_iload_n (pc := 24) F dX8_passenger_24 rfl ?_
    refine g_bipush (pc := 25) (v := 13) F dX8_passenger_25 (by decide) ?_
    refine g_aload_n (pc := 27) F dX8_passenger_27 rfl ?_
    refine g_iload_n (pc := 28) F dX8_passenger_28 rfl ?_
    refine g_stk (st' := [.int (nI i), .ref (ad g 224), .int (nI 13), .int (nI i), .ref (ad g 224)]) (by rw [hx] <;> rfl) ?_
    refine g_callV (pc := 29) (rf2 := 1) (rl2 := 22) F cs_X8_61 k224 rfl (by decide) (by rfl) (by rfl) (Nat.le_of_ble_eq_true (by rfl)) (by decide) dX8_passenger_29 (c_X8_rest _ g _ i (by omega)) (fun v M2 hz => ?_)
    obtain ⟨rfl, h2⟩ := hz
    rw [h2, memRest]
    refine g_callV (pc := 32) (rf2 := 0) (rl2 := 0) F cs_X8_54 k224 rfl (by decide) (by rfl) (by rfl) (Nat.le_of_ble_eq_true (by rfl)) (by decide) dX8_passenger_32 (c_X8_adds _ g _ i (by omega) 13 (by decide) _) (fun v M2 hz => ?_)
    obtain ⟨rfl, h2⟩ := hz
    rw [h2, memCr (q := 13) _ _ _ _ (by decide), memC (q := 13) _ _ _ _ (by decide)]
    refine g_aload_n (pc := 35) F dX8_passenger_35 rfl ?_
    refine g_iload_n (pc := 36) F dX8_passenger_36 rfl ?_
    refine g_stk (st' := [.int (nI i), .ref (ad g 224)]) (by rw [hx] <;> rfl) ?_
    refine g_callV (pc := 37) (rf2 := 1) (rl2 := 22) F cs_X8_61 k224 rfl (by decide) (by rfl) (by rfl) (Nat.le_of_ble_eq_true (by rfl)) (by decide) dX8_passenger_37 (c_X8_rest _ g _ i (by omega)) (fun v M2 hz => ?_)
    obtain ⟨rfl, h2⟩ := hz
    rw [h2, memRest]
    refine g_iret (pc := 40) F r dX8_passenger_40 ?_
    have e : oPass (M 225) x = (cw (M 225) i 6 - cw (M 225) i 7, pasC (M 225) i) := by
      unfold oPass
      rw [if_pos (b2i_1 c5), hx, ixN_nI (by omega)]
    rw [e]
    refine ⟨rfl, Or.inr ⟨?_, M1, hch, rfl⟩⟩
    show ¬ cw (M 225) i 6 - cw (M 225) i 7 < 0
    rw [h6, h7, nI_sub (by omega)]
    exact nI_nneg (by omega)
  · have hno := b2i_0 c5
    refine g_ldc (pc := 8) F wk_X8_88 dX8_passenger_8 ?_
    refine g_iret (pc := 10) F r dX8_passenger_10 ?_
    have e : oPass (M 225) x = (-1000001, M 225) := if_neg hno
    rw [e]
    exact ⟨rfl, Or.inl ⟨negc (by decide), rfl⟩⟩

set_option maxHeartbeats 4000000 in
set_option maxRecDepth 100000 in
theorem c_X8_tick (l : Launch) (g : Gm) (M : Mem) (t : Nat) (hi : Inv (M 225) t) (ht : t ≤ 99999) (pn : Nat) (hpn4 : pn ≤ 4) (hpn : M 224 4 = nI pn) (hr : M 224 5 = 0 ∨ M 224 5 = 1) (k : Int32) : Cn l yX8_tick cX8_tick 2 (some .int) 6 136 g [.ref (ad g 224), .int k] M (fun v M2 => v = some (.int (oTick (M 225) k).1) ∧ MOK M pn (oTick (M 225) k) M2) := by
  refine Cn.intro (lv0 := [some (.ref (ad g 224)), some (.int k)]) 0 (by decide +kernel) (Nat.le_of_ble_eq_true rfl) rfl (fun X F r => ?_)
  have k224 := kd224
  have k225 := kd225
  have hn := hi.cn_le
  have hm := hi.gn_le
  refine g_iload_n (pc := 0) F dX8_tick_0 rfl ?_
  refine g_iconst (pc := 1) (v := 1) F dX8_tick_1 (by decide) ?_
  refine g_sipush (pc := 2) (v := 200) F dX8_tick_2 (by decide) ?_
  refine g_callS (pc := 5) (rf2 := 0) (rl2 := 0) F cs_X8_80 (by rfl) (by rfl) (Nat.le_of_ble_eq_true (by rfl)) (by decide) dX8_tick_5 (c_X8_in _ g _ k 1 200) (fun v M2 hz => ?_)
  obtain ⟨rfl, h2⟩ := hz
  rw [h2]
  refine g_if_ne (pc := 8) (tgt := 14) F dX8_tick_8 (by decide) (fun c8 => ?_) (fun c8 => ?_)
  · have hkP : ticksP k := b2i_1 c8
    obtain ⟨kn, kn1, kn2, hkn⟩ := ticksP_nI hkP
    refine g_aload_n (pc := 14) F dX8_tick_14 rfl ?_
    refine g_getr (pc := 15) F fl_X8_7 (by assumption) rfl dX8_tick_15 ?_
    refine g_iconst (pc := 18) (v := 2) F dX8_tick_18 (by decide) ?_
    refine g_iald (pc := 19) (q := 2) F k225 rfl (by decide) (by decide) dX8_tick_19 ?_
    refine g_iload_n (pc := 20) F dX8_tick_20 rfl ?_
    refine g_iadd (pc := 21) F dX8_tick_21 ?_
    refine g_ldc (pc := 22) F wk_X8_97 dX8_tick_22 ?_
    refine g_icmp_le (pc := 24) (tgt := 30) F dX8_tick_24 (by decide) (fun c24 => ?_) (fun c24 => ?_)
    · have ht1 : t + kn ≤ 99999 := by
        rw [hi.2.2.1, hkn, nI_add] at c24
        exact (nI_leI (b := 99999) (by omega) (by decide)).mp c24
      refine g_aload_n (pc := 30) F dX8_tick_30 rfl ?_
      refine g_callV (pc := 31) (rf2 := 0) (rl2 := 0) F cs_X8_90 k224 rfl (by decide) (by rfl) (by rfl) (Nat.le_of_ble_eq_true (by rfl)) (by decide) dX8_tick_31 (c_X8_changes _ g _ pn hpn4 hpn hr) (fun v M1 hz => ?_)
      obtain ⟨rfl, hch⟩ := hz
      have e225 := hch.s
      refine g_aload_n (pc := 34) F dX8_tick_34 rfl ?_
      refine g_iload_n (pc := 35) F dX8_tick_35 rfl ?_
      refine g_stk (st' := [.int (nI kn), .ref (ad g 224)]) (by rw [hkn] <;> rfl) ?_
      refine g_callV (pc := 36) (rf2 := 5) (rl2 := 113) F cs_X8_98 k224 rfl (by decide) (by rfl) (by rfl) (Nat.le_of_ble_eq_true (by rfl)) (by decide) dX8_tick_36 (c_X8_endsFor _ g _ t (by rw [e225]; exact hi) kn kn2 (by omega)) (fun v M2 hz => ?_)
      obtain ⟨rfl, h2⟩ := hz
      rw [h2, e225]
      refine g_iret (pc := 39) F r dX8_tick_39 ?_
      have e : oTick (M 225) k = endsN (M 225) kn := by
        unfold oTick
        rw [if_pos hkP, if_pos c24, hkn, ixN_nI (by omega)]
      rw [e]
      obtain ⟨q, hq, he⟩ := endsN_num hi kn (by omega)
      exact ⟨rfl, Or.inr ⟨by rw [he]; exact nI_nneg (by omega), M1, hch, rfl⟩⟩
    · skip
      refine g_ldc (pc := 27) F wk_X8_89 dX8_tick_27 ?_
      refine g_iret (pc := 29) F r dX8_tick_29 ?_
      have e : oTick (M 225) k = (-1000003, M 225) := by
        unfold oTick
        rw [if_pos hkP, if_neg c24]
      rw [e]
      exact ⟨rfl, Or.inl ⟨negc (by decide), rfl⟩⟩
  · have hno : ¬ ticksP k := b2i_0 c8
    refine g_ldc (pc := 11) F wk_X8_88 dX8_tick_11 ?_
    refine g_iret (pc := 13) F r dX8_tick_13 ?_
    have e : oTick (M 225) k = (-1000001, M 225) := if_neg hno
    rw [e]
    exact ⟨rfl, Or.inl ⟨negc (by decide), rfl⟩⟩

