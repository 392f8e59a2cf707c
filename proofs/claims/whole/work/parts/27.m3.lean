/-! the check: tells, ends -/
/-- the clock i has told its gap, and the next one begins -/
def telS (S : SV) (i : Nat) : SV := beg (setC S i (tw (cw S i))) i (cw S i 5 + 1)
theorem grp_upd (S : SV) (i : Nat) (z : Int32) : upd (upd S (94 + 4 * i + 2) (gw S i 2 + jbc (gw S i 1 &&& z))) (94 + 4 * i + 3) (gw S i 3 + (if 1 < jbc (gw S i 1 &&& z) then 1 else 0)) = setGr S i (gtick (gw S i) z) := by
  have e : gtick (gw S i) z = upd (upd (gw S i) 2 (gw S i 2 + jbc (gw S i 1 &&& z))) 3 (gw S i 3 + (if 1 < jbc (gw S i 1 &&& z) then 1 else 0)) := by
    funext j
    unfold gtick
    simp only [upd_get]
    by_cases h3 : j = 3
    · rw [if_neg (by omega), if_pos h3, if_pos h3]
      by_cases h : jbc (gw S i 1 &&& z) < 2
      · rw [if_pos h, if_neg (fun e => ?_), Int32.add_zero]
        have a1 := Int32.lt_iff_toInt_lt.mp h
        have a2 := Int32.lt_iff_toInt_lt.mp e
        have e1 : (1 : Int32).toInt = 1 := rfl
        have e2 : (2 : Int32).toInt = 2 := rfl
        omega
      · rw [if_neg h, if_pos]
        apply Int32.lt_iff_toInt_lt.mpr
        have a1 : ¬ (jbc (gw S i 1 &&& z)).toInt < (2 : Int32).toInt := fun e => h (Int32.lt_iff_toInt_lt.mpr e)
        have e1 : (1 : Int32).toInt = 1 := rfl
        have e2 : (2 : Int32).toInt = 2 := rfl
        omega
    · rw [if_neg h3]
      by_cases h2 : j = 2
      · rw [if_pos h2, if_neg h3]
      · rw [if_neg h2, if_neg h3]
  rw [e, setGr_upd (j := 3) _ _ _ (by decide), setGr_upd (j := 2) _ _ _ (by decide), setGr_gw]
theorem tw_lo (w : Nat → Int32) {j : Nat} (hj : j < 8) : tw w j = w j := by
  unfold tw
  rw [upd_ne _ _ (by omega), upd_ne _ _ (by omega), upd_ne _ _ (by omega), upd_ne _ _ (by omega)]
set_option maxHeartbeats 4000000 in
set_option maxRecDepth 100000 in
theorem c_X8_tells (l : Launch) (g : Gm) (M : Mem) (i : Nat) (hi : i < 6) (la a b c d x p : Nat) (hL : LI (cw (M 225) i) la a b c d) (hx : x < 10000) (hMx : M 225 3 = nI x) (h5 : cw (M 225) i 5 = nI p) (hp : p < 1000) : Cn l yX8_tells cX8_tells 3 none 3 68 g [.ref (ad g 224), .int (nI i)] M (fun v M2 => v = none ∧ M2 = updr M 225 (telS (M 225) i)) := by
  refine Cn.intro (lv0 := [some (.ref (ad g 224)), some (.int (nI i)), none]) 1 (by decide +kernel) (Nat.le_of_ble_eq_true rfl) rfl (fun X F r => ?_)
  have k224 := kd224
  have k225 := kd225
  have T : G X g 3 (updr M 225 (setC (M 225) i (tw (cw (M 225) i)))) 63 [some (.ref (ad g 224)), some (.int (nI i)), some (.int (cw (M 225) i 6))] [] := by
    refine g_aload_n (pc := 63) F dX8_tells_63 rfl ?_
    refine g_iload_n (pc := 64) F dX8_tells_64 rfl ?_
    refine g_aload_n (pc := 65) F dX8_tells_65 rfl ?_
    refine g_iload_n (pc := 66) F dX8_tells_66 rfl ?_
    refine g_iconst (pc := 67) (v := 5) F dX8_tells_67 (by decide) ?_
    refine g_callV (pc := 68) (rf2 := 0) (rl2 := 0) F cs_X8_36 k224 rfl (by decide) (by rfl) (by rfl) (Nat.le_of_ble_eq_true (by rfl)) (by decide) dX8_tells_68 (c_X8_of _ g _ i hi 5 (by decide)) (fun v M2 hz => ?_)
    obtain ⟨rfl, h2⟩ := hz
    rw [h2, memCr (q := 5) _ _ _ _ (by decide)]
    refine g_iconst (pc := 71) (v := 1) F dX8_tells_71 (by decide) ?_
    refine g_iadd (pc := 72) F dX8_tells_72 ?_
    refine g_stk (st' := [.int (nI (p + 1)), .int (nI i), .ref (ad g 224)]) (by rw [show tw (cw (M 225) i) 5 = cw (M 225) i 5 from rfl, h5, nI_1] <;> rfl) ?_
    refine g_callV (pc := 73) (rf2 := 2) (rl2 := 45) F cs_X8_57 k224 rfl (by decide) (by rfl) (by rfl) (Nat.le_of_ble_eq_true (by rfl)) (by decide) dX8_tells_73 (c_X8_begins _ g _ i hi la a b c d x (p + 1) (by rw [updr_self]; exact LI_congr hL (fun j hj => (cw_setC _ _ _ (by omega)).trans (tw_lo _ (by omega)))) hx (by rw [updr_self, setC_lo _ _ _ (by decide)]; exact hMx) (by omega)) (fun v M2 hz => ?_)
    obtain ⟨rfl, h2⟩ := hz
    refine g_vret (pc := 76) F r dX8_tells_76 ?_
    refine ⟨rfl, ?_⟩
    rw [h2, updr_updr, updr_self, ← nI_1, ← h5]
    rfl
  refine G.mem (memC0 M i) ?_
  refine g_aload_n (pc := 0) F dX8_tells_0 rfl ?_
  refine g_iload_n (pc := 1) F dX8_tells_1 rfl ?_
  refine g_bipush (pc := 2) (v := 6) F dX8_tells_2 (by decide) ?_
  refine g_callV (pc := 4) (rf2 := 0) (rl2 := 0) F cs_X8_36 k224 rfl (by decide) (by rfl) (by rfl) (Nat.le_of_ble_eq_true (by rfl)) (by decide) dX8_tells_4 (c_X8_of _ g _ i hi 6 (by decide)) (fun v M2 hz => ?_)
  obtain ⟨rfl, h2⟩ := hz
  rw [h2, memCr (q := 6) _ _ _ _ (by decide)]
  refine g_istore_n (pc := 7) F dX8_tells_7 (by decide) rfl ?_
  refine g_aload_n (pc := 8) F dX8_tells_8 rfl ?_
  refine g_iload_n (pc := 9) F dX8_tells_9 rfl ?_
  refine g_bipush (pc := 10) (v := 8) F dX8_tells_10 (by decide) ?_
  refine g_iconst (pc := 12) (v := 1) F dX8_tells_12 (by decide) ?_
  refine g_callV (pc := 13) (rf2 := 0) (rl2 := 0) F cs_X8_54 k224 rfl (by decide) (by rfl) (by rfl) (Nat.le_of_ble_eq_true (by rfl)) (by decide) dX8_tells_13 (c_X8_adds _ g _ i hi 8 (by decide) _) (fun v M2 hz => ?_)
  obtain ⟨rfl, h2⟩ := hz
  rw [h2, memCr (q := 8) _ _ _ _ (by decide), memC (q := 8) _ _ _ _ (by decide)]
  refine g_aload_n (pc := 16) F dX8_tells_16 rfl ?_
  refine g_iload_n (pc := 17) F dX8_tells_17 rfl ?_
  refine g_bipush (pc := 18) (v := 9) F dX8_tells_18 (by decide) ?_
  refine g_iload_n (pc := 20) F dX8_tells_20 rfl ?_
  refine g_callV (pc := 21) (rf2 := 0) (rl2 := 0) F cs_X8_54 k224 rfl (by decide) (by rfl) (by rfl) (Nat.le_of_ble_eq_true (by rfl)) (by decide) dX8_tells_21 (c_X8_adds _ g _ i hi 9 (by decide) _) (fun v M2 hz => ?_)
  obtain ⟨rfl, h2⟩ := hz
  rw [h2, memCr (q := 9) _ _ _ _ (by decide), memC (q := 9) _ _ _ _ (by decide)]
  refine g_aload_n (pc := 24) F dX8_tells_24 rfl ?_
  refine g_iload_n (pc := 25) F dX8_tells_25 rfl ?_
  refine g_bipush (pc := 26) (v := 10) F dX8_tells_26 (by decide) ?_
  refine g_iload_n (pc := 28) F dX8_tells_28 rfl ?_
  refine g_iload_n (pc := 29) F dX8_tells_29 rfl ?_
  refine g_imul (pc := 30) F dX8_tells_30 ?_
  refine g_callV (pc := 31) (rf2 := 0) (rl2 := 0) F cs_X8_54 k224 rfl (by decide) (by rfl) (by rfl) (Nat.le_of_ble_eq_true (by rfl)) (by decide) dX8_tells_31 (c_X8_adds _ g _ i hi 10 (by decide) _) (fun v M2 hz => ?_)
  obtain ⟨rfl, h2⟩ := hz
  rw [h2, memCr (q := 10) _ _ _ _ (by decide), memC (q := 10) _ _ _ _ (by decide)]
  refine g_aload_n (pc := 34) F dX8_tells_34 rfl ?_
  refine g_iload_n (pc := 35) F dX8_tells_35 rfl ?_
  refine g_bipush (pc := 36) (v := 11) F dX8_tells_36 (by decide) ?_
  refine g_aload_n (pc := 38) F dX8_tells_38 rfl ?_
  refine g_iload_n (pc := 39) F dX8_tells_39 rfl ?_
  refine g_bipush (pc := 40) (v := 11) F dX8_tells_40 (by decide) ?_
  refine g_callV (pc := 42) (rf2 := 0) (rl2 := 0) F cs_X8_36 k224 rfl (by decide) (by rfl) (by rfl) (Nat.le_of_ble_eq_true (by rfl)) (by decide) dX8_tells_42 (c_X8_of _ g _ i hi 11 (by decide)) (fun v M2 hz => ?_)
  obtain ⟨rfl, h2⟩ := hz
  rw [h2, memCr (q := 11) _ _ _ _ (by decide)]
  refine g_iload_n (pc := 45) F dX8_tells_45 rfl ?_
  refine g_icmp_le (pc := 46) (tgt := 59) F dX8_tells_46 (by decide) (fun c46 => ?_) (fun c46 => ?_)
  · have c46 : cw (M 225) i 11 ≤ cw (M 225) i 6 := c46
    refine g_iload_n (pc := 59) F dX8_tells_59 rfl ?_
    refine g_callV (pc := 60) (rf2 := 0) (rl2 := 0) F cs_X8_47 k224 rfl (by decide) (by rfl) (by rfl) (Nat.le_of_ble_eq_true (by rfl)) (by decide) dX8_tells_60 (c_X8_sets _ g _ i hi 11 (by decide) _) (fun v M2 hz => ?_)
    obtain ⟨rfl, h2⟩ := hz
    rw [h2, memC (q := 11) _ _ _ _ (by decide)]
    refine G.mem (M' := updr M 225 (setC (M 225) i (tw (cw (M 225) i)))) ?_ T
    show updr M 225 (setC (M 225) i (upd _ 11 _)) = updr M 225 (setC (M 225) i (upd _ 11 (if cw (M 225) i 6 < cw (M 225) i 11 then cw (M 225) i 11 else cw (M 225) i 6)))
    rw [if_neg (fun e => Int32.not_lt.mpr c46 e)]
    rfl
  · have c46 : ¬ cw (M 225) i 11 ≤ cw (M 225) i 6 := c46
    refine g_aload_n (pc := 49) F dX8_tells_49 rfl ?_
    refine g_iload_n (pc := 50) F dX8_tells_50 rfl ?_
    refine g_bipush (pc := 51) (v := 11) F dX8_tells_51 (by decide) ?_
    refine g_callV (pc := 53) (rf2 := 0) (rl2 := 0) F cs_X8_36 k224 rfl (by decide) (by rfl) (by rfl) (Nat.le_of_ble_eq_true (by rfl)) (by decide) dX8_tells_53 (c_X8_of _ g _ i hi 11 (by decide)) (fun v M2 hz => ?_)
    obtain ⟨rfl, h2⟩ := hz
    rw [h2, memCr (q := 11) _ _ _ _ (by decide)]
    refine g_goto (pc := 56) (tgt := 60) F dX8_tells_56 (by decide) ?_
    refine g_callV (pc := 60) (rf2 := 0) (rl2 := 0) F cs_X8_47 k224 rfl (by decide) (by rfl) (by rfl) (Nat.le_of_ble_eq_true (by rfl)) (by decide) dX8_tells_60 (c_X8_sets _ g _ i hi 11 (by decide) _) (fun v M2 hz => ?_)
    obtain ⟨rfl, h2⟩ := hz
    rw [h2, memC (q := 11) _ _ _ _ (by decide)]
    refine G.mem (M' := updr M 225 (setC (M 225) i (tw (cw (M 225) i)))) ?_ T
    show updr M 225 (setC (M 225) i (upd _ 11 _)) = updr M 225 (setC (M 225) i (upd _ 11 (if cw (M 225) i 6 < cw (M 225) i 11 then cw (M 225) i 11 else cw (M 225) i 6)))
    rw [if_pos (Int32.not_le.mp c46)]
    rfl

def sumM (S : SV) (q : Nat) : Nat → Int32
  | 0 => 0
  | i + 1 => sumM S q i + cw S i q
set_option maxHeartbeats 4000000 in
set_option maxRecDepth 100000 in
theorem c_X8_sum (l : Launch) (g : Gm) (M : Mem) (t : Nat) (hi : Inv (M 225) t) (q : Nat) (hq : q < 15) : Cn l yX8_sum cX8_sum 4 (some .int) 1 22 g [.ref (ad g 224), .int (nI q)] M (fun v M2 => v = some (.int (sumM (M 225) q (cn (M 225)))) ∧ M2 = M) := by
  refine Cn.intro (lv0 := [some (.ref (ad g 224)), some (.int (nI q)), none, none]) 2 (by decide +kernel) (Nat.le_of_ble_eq_true rfl) rfl (fun X F r => ?_)
  have k224 := kd224
  have k225 := kd225
  have hn := hi.cn_le
  have hm := hi.gn_le
  refine g_iconst (pc := 0) (v := 0) F dX8_sum_0 (by decide) ?_
  refine g_istore_n (pc := 1) F dX8_sum_1 (by decide) rfl ?_
  refine g_iconst (pc := 2) (v := 0) F dX8_sum_2 (by decide) ?_
  refine g_istore_n (pc := 3) F dX8_sum_3 (by decide) rfl ?_
  have L : ∀ (n i : Nat) (y : Int32), i + n = cn (M 225) → y = nI i → G X g 4 M 4 [some (.ref (ad g 224)), some (.int (nI q)), some (.int (sumM (M 225) q i)), some (.int y)] [] := by
    intro n
    induction n with
    | zero =>
      intro i y hin hy
      obtain rfl : i = cn (M 225) := by omega
      refine g_iload_n (pc := 4) F dX8_sum_4 rfl ?_
      refine g_aload_n (pc := 5) F dX8_sum_5 rfl ?_
      refine g_getr (pc := 6) F fl_X8_7 (by assumption) rfl dX8_sum_6 ?_
      refine g_iconst (pc := 9) (v := 0) F dX8_sum_9 (by decide) ?_
      refine g_iald (pc := 10) (q := 0) F k225 rfl (by decide) (by decide) dX8_sum_10 ?_
      refine g_icmp_ge (pc := 11) (tgt := 29) F dX8_sum_11 (by decide) (fun c11 => ?_) (fun c11 => ?_)
      · refine g_iload_n (pc := 29) F dX8_sum_29 rfl ?_
        refine g_iret (pc := 30) F r dX8_sum_30 ?_
        exact ⟨rfl, rfl⟩
      · exact absurd (by rw [hn.2, hy]; exact nI_le (by omega) (by omega)) c11
    | succ n ih =>
      intro i y hin hy
      refine g_iload_n (pc := 4) F dX8_sum_4 rfl ?_
      refine g_aload_n (pc := 5) F dX8_sum_5 rfl ?_
      refine g_getr (pc := 6) F fl_X8_7 (by assumption) rfl dX8_sum_6 ?_
      refine g_iconst (pc := 9) (v := 0) F dX8_sum_9 (by decide) ?_
      refine g_iald (pc := 10) (q := 0) F k225 rfl (by decide) (by decide) dX8_sum_10 ?_
      refine g_icmp_ge (pc := 11) (tgt := 29) F dX8_sum_11 (by decide) (fun c11 => ?_) (fun c11 => ?_)
      · exact absurd c11 (by rw [hn.2, hy]; exact nI_ge (by omega) (by omega))
      · refine g_iload_n (pc := 14) F dX8_sum_14 rfl ?_
        refine g_aload_n (pc := 15) F dX8_sum_15 rfl ?_
        refine g_iload_n (pc := 16) F dX8_sum_16 rfl ?_
        refine g_iload_n (pc := 17) F dX8_sum_17 rfl ?_
        refine g_stk (st' := [.int (nI q), .int (nI i), .ref (ad g 224), .int (sumM (M 225) q i)]) (by rw [hy]) ?_
        refine g_callV (pc := 18) (rf2 := 0) (rl2 := 0) F cs_X8_36 k224 rfl (by decide) (by rfl) (by rfl) (Nat.le_of_ble_eq_true (by rfl)) (by decide) dX8_sum_18 (c_X8_of _ g _ i (by omega) q hq) (fun v M2 hz => ?_)
        obtain ⟨rfl, h2⟩ := hz
        rw [h2]
        refine g_iadd (pc := 21) F dX8_sum_21 ?_
        refine g_istore_n (pc := 22) F dX8_sum_22 (by decide) rfl ?_
        refine g_iinc (pc := 23) F dX8_sum_23 rfl rfl (by decide) rfl ?_
        refine g_goto (pc := 26) (tgt := 4) F dX8_sum_26 (by decide) ?_
        exact G.sub [some (.ref (ad g 224)), some (.int (nI q)), some (.int (sumM (M 225) q (i + 1))), some (.int (y + Int32.ofInt 1))] ⟨rfl, rfl, rfl, rfl, trivial⟩ (ih (i + 1) _ (by omega) (by rw [hy]; exact nI_1 i))
  exact L (cn (M 225)) 0 _ (by omega) nI0

