/-! Hall: who is asked for -/
theorem nI_of_range {x : Int32} {n : Nat} (h0 : ¬ x < 0) (h1 : x < nI n) (hn : n < 2147483648) : ∃ i, i < n ∧ x = nI i := by
  obtain ⟨j, hj, rfl⟩ := nI_of h0
  exact ⟨j, (nI_ltI hj hn).mp h1, rfl⟩
theorem nI_out {x : Int32} {n : Nat} (h : x < 0 ∨ nI n ≤ x) (hn : n < 2147483648) : ∀ i, i < n → x ≠ nI i := by
  rintro i hi rfl
  rcases h with h | h
  · exact nI_pos (by omega) h
  · exact nI_ge hi hn h
set_option maxHeartbeats 4000000 in
set_option maxRecDepth 100000 in
theorem c_X3_clockAt (l : Launch) (g : Gm) (M : Mem) (h : Nat) (hk : kd h = 3) (n : Nat) (hn : n ≤ 6) (hM : M h 1 = nI n) (x : Int32) : Cn l yX3_clockAt cX3_clockAt 2 (some (.object "RenewalClocks$Clock")) 0 0 g [.ref (ad g h), .int x] M (fun v M2 => M2 = M ∧ ((∃ i, i < n ∧ x = nI i ∧ v = some (.ref (ad g (h + 3 + 4 * i)))) ∨ ((∀ i, i < n → x ≠ nI i) ∧ v = some .null))) := by
  refine Cn.intro (lv0 := [some (.ref (ad g h)), some (.int x)]) 0 (by decide +kernel) (Nat.le_of_ble_eq_true rfl) rfl (fun X F r => ?_)
  obtain ⟨hk1, hk2, hkC, hkG⟩ := kd_hall hk
  refine g_iload_n (pc := 0) F dX3_clockAt_0 rfl ?_
  refine g_if_lt (pc := 1) (tgt := 21) F dX3_clockAt_1 (by decide) (fun c1 => ?_) (fun c1 => ?_)
  · refine g_null (pc := 21) F dX3_clockAt_21 ?_
    refine g_aretN (pc := 22) F r dX3_clockAt_22 ⟨rfl, Or.inr ⟨nI_out (by first | exact Or.inl c1 | exact Or.inr c9) (by omega), rfl⟩⟩
  · refine g_iload_n (pc := 4) F dX3_clockAt_4 rfl ?_
    refine g_aload_n (pc := 5) F dX3_clockAt_5 rfl ?_
    refine g_geti (pc := 6) F fl_X3_29 (by assumption) rfl dX3_clockAt_6 ?_
    refine g_icmp_ge (pc := 9) (tgt := 21) F dX3_clockAt_9 (by decide) (fun c9 => ?_) (fun c9 => ?_)
    · rw [hM] at c9
      refine g_null (pc := 21) F dX3_clockAt_21 ?_
      refine g_aretN (pc := 22) F r dX3_clockAt_22 ⟨rfl, Or.inr ⟨nI_out (by first | exact Or.inl c1 | exact Or.inr c9) (by omega), rfl⟩⟩
    · rw [hM] at c9
      obtain ⟨i, hi, hx⟩ := nI_of_range c1 (Int32.not_le.mp c9) (by omega)
      refine g_iload_n (pc := 12) F dX3_clockAt_12 rfl ?_
      refine g_aload_n (pc := 13) F dX3_clockAt_13 rfl ?_
      refine g_getr (pc := 14) F fl_X3_11 (by assumption) rfl dX3_clockAt_14 ?_
      refine g_alenK (pc := 17) F (by assumption) (v := 6) (by decide) dX3_clockAt_17 ?_
      refine g_icmp_lt (pc := 18) (tgt := 23) F dX3_clockAt_18 (by decide) (fun c18 => ?_) (fun c18 => ?_)
      · refine g_aload_n (pc := 23) F dX3_clockAt_23 rfl ?_
        refine g_getr (pc := 24) F fl_X3_11 (by assumption) rfl dX3_clockAt_24 ?_
        refine g_iload_n (pc := 27) F dX3_clockAt_27 rfl ?_
        refine g_aaldK (pc := 28) (q := i) (r := h + 3 + 4 * i) F hk1 hx (by omega) (by omega) dX3_clockAt_28 ?_
        refine g_aret (pc := 29) F r dX3_clockAt_29 ?_
        exact ⟨rfl, Or.inl ⟨i, hi, hx, rfl⟩⟩
      · exact absurd (by rw [hx]; exact nI_lt (a := i) (b := 6) (by omega) (by decide)) c18

set_option maxHeartbeats 4000000 in
set_option maxRecDepth 100000 in
theorem c_X3_groupAt (l : Launch) (g : Gm) (M : Mem) (h : Nat) (hk : kd h = 3) (n : Nat) (hn : n ≤ 4) (hM : M h 3 = nI n) (x : Int32) : Cn l yX3_groupAt cX3_groupAt 2 (some (.object "RenewalClocks$Group")) 0 0 g [.ref (ad g h), .int x] M (fun v M2 => M2 = M ∧ ((∃ i, i < n ∧ x = nI i ∧ v = some (.ref (ad g (h + 27 + i)))) ∨ ((∀ i, i < n → x ≠ nI i) ∧ v = some .null))) := by
  refine Cn.intro (lv0 := [some (.ref (ad g h)), some (.int x)]) 0 (by decide +kernel) (Nat.le_of_ble_eq_true rfl) rfl (fun X F r => ?_)
  obtain ⟨hk1, hk2, hkC, hkG⟩ := kd_hall hk
  refine g_iload_n (pc := 0) F dX3_groupAt_0 rfl ?_
  refine g_if_lt (pc := 1) (tgt := 21) F dX3_groupAt_1 (by decide) (fun c1 => ?_) (fun c1 => ?_)
  · refine g_null (pc := 21) F dX3_groupAt_21 ?_
    refine g_aretN (pc := 22) F r dX3_groupAt_22 ⟨rfl, Or.inr ⟨nI_out (by first | exact Or.inl c1 | exact Or.inr c9) (by omega), rfl⟩⟩
  · refine g_iload_n (pc := 4) F dX3_groupAt_4 rfl ?_
    refine g_aload_n (pc := 5) F dX3_groupAt_5 rfl ?_
    refine g_geti (pc := 6) F fl_X3_36 (by assumption) rfl dX3_groupAt_6 ?_
    refine g_icmp_ge (pc := 9) (tgt := 21) F dX3_groupAt_9 (by decide) (fun c9 => ?_) (fun c9 => ?_)
    · rw [hM] at c9
      refine g_null (pc := 21) F dX3_groupAt_21 ?_
      refine g_aretN (pc := 22) F r dX3_groupAt_22 ⟨rfl, Or.inr ⟨nI_out (by first | exact Or.inl c1 | exact Or.inr c9) (by omega), rfl⟩⟩
    · rw [hM] at c9
      obtain ⟨i, hi, hx⟩ := nI_of_range c1 (Int32.not_le.mp c9) (by omega)
      refine g_iload_n (pc := 12) F dX3_groupAt_12 rfl ?_
      refine g_aload_n (pc := 13) F dX3_groupAt_13 rfl ?_
      refine g_getr (pc := 14) F fl_X3_19 (by assumption) rfl dX3_groupAt_14 ?_
      refine g_alenG (pc := 17) F (by assumption) (v := 4) (by decide) dX3_groupAt_17 ?_
      refine g_icmp_lt (pc := 18) (tgt := 23) F dX3_groupAt_18 (by decide) (fun c18 => ?_) (fun c18 => ?_)
      · refine g_aload_n (pc := 23) F dX3_groupAt_23 rfl ?_
        refine g_getr (pc := 24) F fl_X3_19 (by assumption) rfl dX3_groupAt_24 ?_
        refine g_iload_n (pc := 27) F dX3_groupAt_27 rfl ?_
        refine g_aaldG (pc := 28) (q := i) (r := h + 27 + i) F hk2 hx (by omega) (by omega) dX3_groupAt_28 ?_
        refine g_aret (pc := 29) F r dX3_groupAt_29 ?_
        exact ⟨rfl, Or.inl ⟨i, hi, hx, rfl⟩⟩
      · exact absurd (by rw [hx]; exact nI_lt (a := i) (b := 4) (by omega) (by decide)) c18

set_option maxHeartbeats 4000000 in
set_option maxRecDepth 100000 in
theorem c_X3_draw (l : Launch) (g : Gm) (M : Mem) (h : Nat) (hk : kd h = 3) (n : Int32) : Cn l yX3_draw cX3_draw 2 (some .int) 0 0 g [.ref (ad g h), .int n] M (fun v M2 => v = some (.int (if 0 < n then jrem (xnext (M h 5)) n else 0)) ∧ M2 = upd2 M h 5 (xnext (M h 5))) := by
  refine Cn.intro (lv0 := [some (.ref (ad g h)), some (.int n)]) 0 (by decide +kernel) (Nat.le_of_ble_eq_true rfl) rfl (fun X F r => ?_)
  obtain ⟨hk1, hk2, hkC, hkG⟩ := kd_hall hk
  refine g_aload_n (pc := 0) F dX3_draw_0 rfl ?_
  refine g_aload_n (pc := 1) F dX3_draw_1 rfl ?_
  refine g_geti (pc := 2) F fl_X3_23 (by assumption) rfl dX3_draw_2 ?_
  refine g_sipush (pc := 5) (v := 421) F dX3_draw_5 (by decide) ?_
  refine g_imul (pc := 8) F dX3_draw_8 ?_
  refine g_sipush (pc := 9) (v := 1663) F dX3_draw_9 (by decide) ?_
  refine g_iadd (pc := 12) F dX3_draw_12 ?_
  refine g_sipush (pc := 13) (v := 10000) F dX3_draw_13 (by decide) ?_
  refine g_irem (pc := 16) F (by decide) dX3_draw_16 ?_
  refine g_puti (pc := 17) F fl_X3_23 rfl rfl (by assumption) rfl dX3_draw_17 ?_
  refine g_iload_n (pc := 20) F dX3_draw_20 rfl ?_
  refine g_if_le (pc := 21) (tgt := 33) F dX3_draw_21 (by decide) (fun c21 => ?_) (fun c21 => ?_)
  · refine g_iconst (pc := 33) (v := 0) F dX3_draw_33 (by decide) ?_
    refine g_iret (pc := 34) F r dX3_draw_34 ?_
    refine ⟨?_, rfl⟩
    try simp only [upd2_self]
    first | (rw [if_pos (Int32.not_le.mp c21)]; rfl) | rw [if_neg (Int32.not_lt.mpr c21)]
  · refine g_aload_n (pc := 24) F dX3_draw_24 rfl ?_
    refine g_geti (pc := 25) F fl_X3_23 (by assumption) rfl dX3_draw_25 ?_
    refine g_iload_n (pc := 28) F dX3_draw_28 rfl ?_
    refine g_irem (pc := 29) F (fun e => by rw [e] at c21; exact c21 (Int32.le_refl 0)) dX3_draw_29 ?_
    refine g_goto (pc := 30) (tgt := 34) F dX3_draw_30 (by decide) ?_
    refine g_iret (pc := 34) F r dX3_draw_34 ?_
    refine ⟨?_, rfl⟩
    try simp only [upd2_self]
    first | (rw [if_pos (Int32.not_le.mp c21)]; rfl) | rw [if_neg (Int32.not_lt.mpr c21)]

/-- the place in turn, as the remainder has it -/
theorem turn_jrem {q P : Nat} (hq : q ≤ P) (hP0 : 0 < P) (hP : P ≤ 51) : (if nI q < nI P then nI q else 0) = jrem (nI q) (nI P) := by
  rw [jrem_nI (by omega) hP0 (by omega)]
  by_cases h : q < P
  · rw [if_pos ((nI_ltI (by omega) (by omega)).mpr h), Nat.mod_eq_of_lt h]
  · obtain rfl : q = P := by omega
    rw [if_neg (fun e => h ((nI_ltI (by omega) (by omega)).mp e)), Nat.mod_self]
    exact nI0
set_option maxHeartbeats 4000000 in
set_option maxRecDepth 100000 in
theorem c_X3_beginGap (l : Launch) (g : Gm) (M : Mem) (h c : Nat) (hk : kd h = 3) (hc : kd c = 0) (hhc : h + 3 ≤ c) (w : Nat → Int32) (hw : CR M c w) {la a b cc d x q : Nat} (hL : LI w la a b cc d) (hx : x < 10000) (hMx : M h 5 = nI x) (hq : w 5 + 1 = nI q) (hqN : q ≤ NP la b cc d) : Cn l yX3_beginGap cX3_beginGap 2 none 1 21 g [.ref (ad g h), .ref (ad g c)] M (fun v M2 => v = none ∧ M2 h = upd (M h) 5 (bx w (M h 5)) ∧ CR M2 c (bw w (M h 5) (w 5 + 1)) ∧ ∀ a, a ≠ h → a ≠ c → M2 a = M a) := by
  refine Cn.intro (lv0 := [some (.ref (ad g h)), some (.ref (ad g c))]) 0 (by decide +kernel) (Nat.le_of_ble_eq_true rfl) rfl (fun X F r => ?_)
  obtain ⟨hk1, hk2, hkC, hkG⟩ := kd_hall hk
  obtain ⟨hc1, hc2, hc3⟩ := kd_clk hc
  have hN := NP_bound (la := la) (b := b) (c := cc) (d := d) (hL.2.2.2.2.2.2.2.2.1)
  have hqP : q < 2147483648 := by omega
  refine g_aload_n (pc := 0) F dX3_beginGap_0 rfl ?_
  refine g_aload_n (pc := 1) F dX3_beginGap_1 rfl ?_
  refine g_geti (pc := 2) F fl_X3_68 (by assumption) rfl dX3_beginGap_2 ?_
  refine g_iconst (pc := 5) (v := 1) F dX3_beginGap_5 (by decide) ?_
  refine g_icmp_ne (pc := 6) (tgt := 23) F dX3_beginGap_6 (by decide) (fun c6 => ?_) (fun c6 => ?_)
  · rw [hw.1] at c6
    refine g_aload_n (pc := 23) F dX3_beginGap_23 rfl ?_
    refine g_callV (pc := 24) (rf2 := 0) (rl2 := 0) F cs_X3_84 (by assumption) rfl (by decide) (by rfl) (by rfl) (Nat.le_of_ble_eq_true (by rfl)) (by decide) dX3_beginGap_24 (c_X0_placeInTurn _ g _ c hc) (fun v M2 hz => ?_)
    obtain ⟨rfl, h2⟩ := hz
    rw [h2]
    refine g_callV (pc := 27) (rf2 := 0) (rl2 := 0) F cs_X3_88 (by assumption) rfl (by decide) (by rfl) (by rfl) (Nat.le_of_ble_eq_true (by rfl)) (by decide) dX3_beginGap_27 (c_X0_beginAt _ g _ c hc _) (fun v M2 hz => ?_)
    obtain ⟨rfl, rfl⟩ := hz
    refine g_vret (pc := 30) F r dX3_beginGap_30 ?_
    obtain ⟨p, hp, hpe⟩ := bplace_nI hL hx hqP
    have hg := gapF_gapAt hw hL hp
    refine ⟨rfl, ?_, ?_, fun a ha1 ha2 => ?_⟩
    · rw [updr_ne _ _ (show h ≠ c by omega)]
      unfold bx
      rw [if_neg c6]
      funext j
      unfold upd
      split
      · next e => rw [e]
      · rfl
    · unfold CR
      rw [updr_self, updr_ne _ _ (show c + 1 ≠ c by omega), updr_ne _ _ (show c + 2 ≠ c by omega), updr_ne _ _ (show c + 3 ≠ c by omega)]
      have e : (if M c 2 + 1 < M (c + 3) 0 then M c 2 + 1 else 0) = nI p := by
        rw [← hpe, rnd_many hw, LI_places hL, hw.2.2.1, hq, turn_jrem hqN (by omega) (by omega)]
        unfold bplace
        rw [if_neg c6, LI_places hL]
      rw [e, hg, hMx, hq, show bw w (nI x) (nI q) = upd (upd (upd w 5 (nI p)) 6 (gapAt w (nI p))) 7 0 by unfold bw; rw [hpe]]
      exact CRr_beg hw _ _
    · rw [updr_ne _ _ ha2]
  · rw [hw.1] at c6
    refine g_aload_n (pc := 9) F dX3_beginGap_9 rfl ?_
    refine g_aload_n (pc := 10) F dX3_beginGap_10 rfl ?_
    refine g_getr (pc := 11) F fl_X3_71 (by assumption) rfl dX3_beginGap_11 ?_
    refine g_geti (pc := 14) F fl_X3_75 (by assumption) rfl dX3_beginGap_14 ?_
    refine g_callV (pc := 17) (rf2 := 0) (rl2 := 0) F cs_X3_80 (by assumption) rfl (by decide) (by rfl) (by rfl) (Nat.le_of_ble_eq_true (by rfl)) (by decide) dX3_beginGap_17 (c_X3_draw _ g _ h hk _) (fun v M2 hz => ?_)
    obtain ⟨rfl, rfl⟩ := hz
    refine g_goto (pc := 20) (tgt := 27) F dX3_beginGap_20 (by decide) ?_
    refine g_callV (pc := 27) (rf2 := 0) (rl2 := 0) F cs_X3_88 (by assumption) rfl (by decide) (by rfl) (by rfl) (Nat.le_of_ble_eq_true (by rfl)) (by decide) dX3_beginGap_27 (c_X0_beginAt _ g _ c hc _) (fun v M2 hz => ?_)
    obtain ⟨rfl, rfl⟩ := hz
    refine g_vret (pc := 30) F r dX3_beginGap_30 ?_
    obtain ⟨p, hp, hpe⟩ := bplace_nI hL hx hqP
    have hg := gapF_gapAt hw hL hp
    refine ⟨rfl, ?_, ?_, fun a ha1 ha2 => ?_⟩
    · rw [updr_ne _ _ (show h ≠ c by omega)]
      rw [upd2_row]
      unfold bx
      rw [if_pos c6, hMx]
    · unfold CR
      rw [updr_self, updr_ne _ _ (show c + 1 ≠ c by omega), updr_ne _ _ (show c + 2 ≠ c by omega), updr_ne _ _ (show c + 3 ≠ c by omega), upd2_k _ _ _ (show c ≠ h by omega), upd2_k _ _ _ (show c + 1 ≠ h by omega), upd2_k _ _ _ (show c + 2 ≠ h by omega), upd2_k _ _ _ (show c + 3 ≠ h by omega)]
      have e : (if 0 < M (c + 3) 0 then jrem (xnext (M h 5)) (M (c + 3) 0) else 0) = nI p := by
        rw [← hpe, rnd_many hw, LI_places hL, if_pos ((nI_lt0 (by omega)).mpr (by omega)), hMx]
        unfold bplace
        rw [if_pos c6, LI_places hL]
      rw [e, hg, hMx, hq, show bw w (nI x) (nI q) = upd (upd (upd w 5 (nI p)) 6 (gapAt w (nI p))) 7 0 by unfold bw; rw [hpe]]
      exact CRr_beg hw _ _
    · rw [updr_ne _ _ ha2, upd2_k _ _ _ ha1]
