/-! the check: a gap begins, a tick ends -/
theorem memC0 (M : Mem) (i : Nat) : M = updr M 225 (setC (M 225) i (cw (M 225) i)) := by rw [setC_cw, updr_same]
theorem memC (M : Mem) (S : SV) (i : Nat) (w : Nat → Int32) {q : Nat} (hq : q < 15) (v : Int32) : upd2 (updr M 225 (setC S i w)) 225 (4 + 15 * i + q) v = updr M 225 (setC S i (upd w q v)) := by
  rw [updr_upd2, setC_upd _ _ _ hq]
theorem memCr (M : Mem) (S : SV) (i : Nat) (w : Nat → Int32) {q : Nat} (hq : q < 15) : updr M 225 (setC S i w) 225 (4 + 15 * i + q) = w q := by
  rw [updr_self]
  exact cw_setC S i w hq
theorem upd_comm (f : Nat → Int32) {a b : Nat} (h : a ≠ b) (x y : Int32) : upd (upd f a x) b y = upd (upd f b y) a x := by
  funext j
  simp only [upd_get]
  by_cases h1 : j = a <;> by_cases h2 : j = b <;> simp_all
theorem gapAt_congr {w w' : Nat → Int32} {p : Int32} (e : ∀ j, j < 5 → w' j = w j) (hp : w 0 = 2 ∨ ∃ j, j < 4 ∧ p = nI j) : gapAt w' p = gapAt w p := by
  unfold gapAt
  rw [e 0 (by decide), e 1 (by decide), e 2 (by decide), e 3 (by decide)]
  by_cases h : w 0 = 2
  · rw [if_pos h, if_pos h]
  · rw [if_neg h, if_neg h]
    obtain ⟨j, hj, rfl⟩ := hp.resolve_left h
    rw [nI_clamp (by omega)]
    exact e _ (by omega)
theorem NP4 {la b c d : Nat} (h : la ≠ 2) : NP la b c d ≤ 4 := by
  unfold NP
  rw [if_neg h]
  by_cases h1 : 0 < b <;> by_cases h2 : 0 < c <;> by_cases h3 : 0 < d <;> simp [h1, h2, h3]
theorem setC_upd3 (S : SV) (i : Nat) (w : Nat → Int32) (v : Int32) : setC (upd S 3 v) i w = upd (setC S i w) 3 v := by
  funext k
  rw [upd_get]
  unfold setC
  rw [upd_get]
  by_cases h : k = 3
  · rw [if_pos h, if_pos h, if_neg (by omega)]
  · rw [if_neg h, if_neg h]
theorem upd_same (f : Nat → Int32) (k : Nat) : upd f k (f k) = f := by
  funext j
  rw [upd_get]
  split
  · next h => rw [h]
  · rfl
set_option maxHeartbeats 4000000 in
set_option maxRecDepth 100000 in
theorem c_X8_begins (l : Launch) (g : Gm) (M : Mem) (i : Nat) (hi : i < 6) (la a b c d x q : Nat) (hL : LI (cw (M 225) i) la a b c d) (hx : x < 10000) (hMx : M 225 3 = nI x) (hq : q < 2147483648) : Cn l yX8_begins cX8_begins 4 none 2 45 g [.ref (ad g 224), .int (nI i), .int (nI q)] M (fun v M2 => v = none ∧ M2 = updr M 225 (beg (M 225) i (nI q))) := by
  refine Cn.intro (lv0 := [some (.ref (ad g 224)), some (.int (nI i)), some (.int (nI q)), none]) 1 (by decide +kernel) (Nat.le_of_ble_eq_true rfl) rfl (fun X F r => ?_)
  have k224 := kd224
  have k225 := kd225
  have hPl := LI_places hL
  have hNP := NP_bound (la := la) (b := b) (c := c) (d := d) hL.2.2.2.2.2.2.2.2.1
  obtain ⟨p, hp, hpe⟩ := bplace_nI hL hx hq
  rw [← hMx] at hpe
  obtain ⟨pl, hplE⟩ : ∃ pl, pl = bplace (cw (M 225) i) (M 225 3) (nI q) := ⟨_, rfl⟩
  have hpl : cw (M 225) i 0 = 2 ∨ ∃ j, j < 4 ∧ pl = nI j := by
    by_cases h2 : la = 2
    · left
      rw [hL.1, h2]
      rfl
    · right
      exact ⟨p, Nat.lt_of_lt_of_le hp (NP4 h2), hplE.trans hpe⟩
  have hPn : ¬ places (cw (M 225) i) = 0 := by
    rw [hPl, nI0, nI_inj (by omega) (by decide)]
    omega
  have T : G X g 4 (updr M 225 (setC (upd (M 225) 3 (bx (cw (M 225) i) (M 225 3))) i (cw (M 225) i))) 30 [some (.ref (ad g 224)), some (.int (nI i)), some (.int (nI q)), some (.int pl)] [] := by
    have eg : ∀ j, j < 5 → cw (updr M 225 (setC (upd (M 225) 3 (bx (cw (M 225) i) (M 225 3))) i (upd (cw (M 225) i) 5 pl)) 225) i j = cw (M 225) i j := by
      intro j hj
      rw [updr_self, cw_setC _ _ _ (by omega), upd_ne _ _ (by omega)]
    refine g_aload_n (pc := 30) F dX8_begins_30 rfl ?_
    refine g_iload_n (pc := 31) F dX8_begins_31 rfl ?_
    refine g_iconst (pc := 32) (v := 5) F dX8_begins_32 (by decide) ?_
    refine g_iload_n (pc := 33) F dX8_begins_33 rfl ?_
    refine g_callV (pc := 34) (rf2 := 0) (rl2 := 0) F cs_X8_47 k224 rfl (by decide) (by rfl) (by rfl) (Nat.le_of_ble_eq_true (by rfl)) (by decide) dX8_begins_34 (c_X8_sets _ g _ i hi 5 (by decide) _) (fun v M2 hz => ?_)
    obtain ⟨rfl, h3⟩ := hz
    rw [h3, memC (q := 5) _ _ _ _ (by decide)]
    refine g_aload_n (pc := 37) F dX8_begins_37 rfl ?_
    refine g_iload_n (pc := 38) F dX8_begins_38 rfl ?_
    refine g_bipush (pc := 39) (v := 6) F dX8_begins_39 (by decide) ?_
    refine g_aload_n (pc := 41) F dX8_begins_41 rfl ?_
    refine g_iload_n (pc := 42) F dX8_begins_42 rfl ?_
    refine g_iload_n (pc := 43) F dX8_begins_43 rfl ?_
    refine g_callV (pc := 44) (rf2 := 1) (rl2 := 22) F cs_X8_51 k224 rfl (by decide) (by rfl) (by rfl) (Nat.le_of_ble_eq_true (by rfl)) (by decide) dX8_begins_44 (c_X8_gapAt _ g _ i hi pl (by rw [eg 0 (by decide)]; exact hpl)) (fun v M2 hz => ?_)
    obtain ⟨rfl, h3⟩ := hz
    rw [h3, gapAt_congr (w := cw (M 225) i) eg hpl]
    refine g_callV (pc := 47) (rf2 := 0) (rl2 := 0) F cs_X8_47 k224 rfl (by decide) (by rfl) (by rfl) (Nat.le_of_ble_eq_true (by rfl)) (by decide) dX8_begins_47 (c_X8_sets _ g _ i hi 6 (by decide) _) (fun v M2 hz => ?_)
    obtain ⟨rfl, h3⟩ := hz
    rw [h3, memC (q := 6) _ _ _ _ (by decide)]
    refine g_aload_n (pc := 50) F dX8_begins_50 rfl ?_
    refine g_iload_n (pc := 51) F dX8_begins_51 rfl ?_
    refine g_bipush (pc := 52) (v := 7) F dX8_begins_52 (by decide) ?_
    refine g_iconst (pc := 54) (v := 0) F dX8_begins_54 (by decide) ?_
    refine g_callV (pc := 55) (rf2 := 0) (rl2 := 0) F cs_X8_47 k224 rfl (by decide) (by rfl) (by rfl) (Nat.le_of_ble_eq_true (by rfl)) (by decide) dX8_begins_55 (c_X8_sets _ g _ i hi 7 (by decide) 0) (fun v M2 hz => ?_)
    obtain ⟨rfl, h3⟩ := hz
    rw [h3, memC (q := 7) _ _ _ _ (by decide)]
    refine g_vret (pc := 58) F r dX8_begins_58 ?_
    refine ⟨rfl, ?_⟩
    rw [hplE]
    show updr M 225 _ = updr M 225 (upd (setC (M 225) i (bw (cw (M 225) i) (M 225 3) (nI q))) 3 (bx (cw (M 225) i) (M 225 3)))
    congr 1
    unfold bw
    rw [setC_upd (j := 7) _ _ _ (by decide), setC_upd (j := 6) _ _ _ (by decide), setC_upd (j := 5) _ _ _ (by decide), setC_upd (j := 7) _ _ _ (by decide), setC_upd (j := 6) _ _ _ (by decide), setC_upd (j := 5) _ _ _ (by decide), setC_upd3, upd_comm _ (show 4 + 15 * i + 7 ≠ 3 by omega), upd_comm _ (show 4 + 15 * i + 6 ≠ 3 by omega), upd_comm _ (show 4 + 15 * i + 5 ≠ 3 by omega)]
  refine g_aload_n (pc := 0) F dX8_begins_0 rfl ?_
  refine g_iload_n (pc := 1) F dX8_begins_1 rfl ?_
  refine g_iconst (pc := 2) (v := 0) F dX8_begins_2 (by decide) ?_
  refine g_callV (pc := 3) (rf2 := 0) (rl2 := 0) F cs_X8_36 k224 rfl (by decide) (by rfl) (by rfl) (Nat.le_of_ble_eq_true (by rfl)) (by decide) dX8_begins_3 (c_X8_of _ g _ i hi 0 (by decide)) (fun v M2 hz => ?_)
  obtain ⟨rfl, h2⟩ := hz
  rw [h2]
  refine g_iconst (pc := 6) (v := 1) F dX8_begins_6 (by decide) ?_
  refine g_icmp_ne (pc := 7) (tgt := 22) F dX8_begins_7 (by decide) (fun c7 => ?_) (fun c7 => ?_)
  · have c7 : ¬ cw (M 225) i 0 = 1 := c7
    refine g_iload_n (pc := 22) F dX8_begins_22 rfl ?_
    refine g_aload_n (pc := 23) F dX8_begins_23 rfl ?_
    refine g_iload_n (pc := 24) F dX8_begins_24 rfl ?_
    refine g_callV (pc := 25) (rf2 := 1) (rl2 := 22) F cs_X8_40 k224 rfl (by decide) (by rfl) (by rfl) (Nat.le_of_ble_eq_true (by rfl)) (by decide) dX8_begins_25 (c_X8_places _ g _ i hi) (fun v M2 hz => ?_)
    obtain ⟨rfl, h3⟩ := hz
    rw [h3]
    refine g_irem (pc := 28) F hPn dX8_begins_28 ?_
    refine g_istore_n (pc := 29) F dX8_begins_29 (by decide) rfl ?_
    have eb : bx (cw (M 225) i) (M 225 3) = M 225 3 := if_neg c7
    rw [eb, upd_same, setC_cw, updr_same, hplE] at T
    have ep : bplace (cw (M 225) i) (M 225 3) (nI q) = jrem (nI q) (places (cw (M 225) i)) := if_neg c7
    rw [ep] at T
    exact T
  · have c7 : cw (M 225) i 0 = 1 := c7
    refine g_aload_n (pc := 10) F dX8_begins_10 rfl ?_
    refine g_aload_n (pc := 11) F dX8_begins_11 rfl ?_
    refine g_iload_n (pc := 12) F dX8_begins_12 rfl ?_
    refine g_callV (pc := 13) (rf2 := 1) (rl2 := 22) F cs_X8_40 k224 rfl (by decide) (by rfl) (by rfl) (Nat.le_of_ble_eq_true (by rfl)) (by decide) dX8_begins_13 (c_X8_places _ g _ i hi) (fun v M2 hz => ?_)
    obtain ⟨rfl, h3⟩ := hz
    rw [h3]
    refine g_callV (pc := 16) (rf2 := 0) (rl2 := 0) F cs_X8_44 k224 rfl (by decide) (by rfl) (by rfl) (Nat.le_of_ble_eq_true (by rfl)) (by decide) dX8_begins_16 (c_X8_draw _ g _ _ hPn) (fun v M2 hz => ?_)
    obtain ⟨rfl, h3⟩ := hz
    rw [h3]
    refine g_goto (pc := 19) (tgt := 29) F dX8_begins_19 (by decide) ?_
    refine g_istore_n (pc := 29) F dX8_begins_29 (by decide) rfl ?_
    have eb : bx (cw (M 225) i) (M 225 3) = xnext (M 225 3) := if_pos c7
    have ec : cw (upd (M 225) 3 (xnext (M 225 3))) i = cw (M 225) i := cw_upd_lo _ _ _ (by decide)
    rw [eb, ← ec, setC_cw, hplE] at T
    have ep : bplace (cw (M 225) i) (M 225 3) (nI q) = jrem (xnext (M 225 3)) (places (cw (M 225) i)) := if_pos c7
    rw [ep] at T
    rw [upd2_updr]
    exact T

theorem ones_step : ∀ z, z < 64 → 0 < z → nI z &&& (nI z - 1) = nI (z &&& (z - 1)) ∧ z &&& (z - 1) < 64 ∧ pop6 (z &&& (z - 1)) + 1 = pop6 z := by decide +kernel
theorem pop6_0 : ∀ z, z < 64 → pop6 z = 0 → z = 0 := by decide +kernel
set_option maxHeartbeats 4000000 in
set_option maxRecDepth 100000 in
theorem c_X8_ones (l : Launch) (g : Gm) (M : Mem) (z : Nat) (hz6 : z < 64) : Cn l yX8_ones cX8_ones 4 (some .int) 0 0 g [.ref (ad g 224), .int (nI z)] M (fun v M2 => v = some (.int (jbc (nI z))) ∧ M2 = M) := by
  refine Cn.intro (lv0 := [some (.ref (ad g 224)), some (.int (nI z)), none, none]) 2 (by decide +kernel) (Nat.le_of_ble_eq_true rfl) rfl (fun X F r => ?_)
  have k224 := kd224
  have k225 := kd225
  refine g_iconst (pc := 0) (v := 0) F dX8_ones_0 (by decide) ?_
  refine g_istore_n (pc := 1) F dX8_ones_1 (by decide) rfl ?_
  refine g_iload_n (pc := 2) F dX8_ones_2 rfl ?_
  refine g_istore_n (pc := 3) F dX8_ones_3 (by decide) rfl ?_
  have L : ∀ (n c y0 : Nat) (cc y : Int32), y0 < 64 → cc = nI c → y = nI y0 → pop6 y0 = n → c + n = pop6 z → G X g 4 M 4 [some (.ref (ad g 224)), some (.int (nI z)), some (.int cc), some (.int y)] [] := by
    intro n
    induction n with
    | zero =>
      intro c y0 cc y hy0 hc hy hpn hcn
      refine g_iload_n (pc := 4) F dX8_ones_4 rfl ?_
      refine g_if_eq (pc := 5) (tgt := 20) F dX8_ones_5 (by decide) (fun c5 => ?_) (fun c5 => ?_)
      · refine g_iload_n (pc := 20) F dX8_ones_20 rfl ?_
        refine g_iret (pc := 21) F r dX8_ones_21 ?_
        exact ⟨by rw [hc, jbc_nI z hz6]; congr 2; rw [show c = pop6 z by omega], rfl⟩
      · exact absurd (by rw [hy, pop6_0 y0 hy0 (by omega)]; rfl) c5
    | succ n ih =>
      intro c y0 cc y hy0 hc hy hpn hcn
      refine g_iload_n (pc := 4) F dX8_ones_4 rfl ?_
      refine g_if_eq (pc := 5) (tgt := 20) F dX8_ones_5 (by decide) (fun c5 => ?_) (fun c5 => ?_)
      · rw [hy, nI0, nI_inj (by omega) (by decide)] at c5
        rw [c5] at hpn
        exact absurd hpn (by show ¬ 0 = n + 1; omega)
      · refine g_iinc (pc := 8) F dX8_ones_8 rfl rfl (by decide) rfl ?_
        refine g_iload_n (pc := 11) F dX8_ones_11 rfl ?_
        refine g_iload_n (pc := 12) F dX8_ones_12 rfl ?_
        refine g_iconst (pc := 13) (v := 1) F dX8_ones_13 (by decide) ?_
        refine g_isub (pc := 14) F dX8_ones_14 ?_
        refine g_iand (pc := 15) F dX8_ones_15 ?_
        refine g_istore_n (pc := 16) F dX8_ones_16 (by decide) rfl ?_
        refine g_goto (pc := 17) (tgt := 4) F dX8_ones_17 (by decide) ?_
        have hy1 : 0 < y0 := Nat.pos_of_ne_zero (fun e => c5 (by rw [hy, e]; rfl))
        obtain ⟨s1, s2, s3⟩ := ones_step y0 hy0 hy1
        refine G.sub [some (.ref (ad g 224)), some (.int (nI z)), some (.int (cc + Int32.ofInt 1)), some (.int (y &&& (y - 1)))] ⟨rfl, rfl, rfl, rfl, trivial⟩ (ih (c + 1) (y0 &&& (y0 - 1)) _ _ s2 (by rw [hc]; exact nI_1 c) (by rw [hy]; exact s1) (by omega) (by omega))
  exact L (pop6 z) 0 z _ _ hz6 nI0 rfl rfl (by omega)

