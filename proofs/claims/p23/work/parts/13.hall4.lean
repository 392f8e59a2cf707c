theorem NP_burst {la b c d p : Nat} (hl : ¬ la = 2) (hp : p < NP la b c d) : p < 4 := by
  unfold NP at hp
  rw [if_neg hl] at hp
  by_cases hb : 0 < b <;> by_cases hc : 0 < c <;> by_cases hd : 0 < d <;> simp [hb, hc, hd] at hp <;> omega
/-- beginning a gap reads the law and its numbers alone -/
theorem bw_congr {u v : Nat → Int32} {la a b c d x q : Nat} (hL : LI u la a b c d) (hx : x < 10000) (hq : q < 2147483648) (e : ∀ j, j < 15 → j ≠ 5 → u j = v j) : (∀ j, j < 15 → bw u (nI x) (nI q) j = bw v (nI x) (nI q) j) ∧ bx u (nI x) = bx v (nI x) := by
  obtain ⟨p, hp, hpe⟩ := bplace_nI hL hx hq
  have hl2 := LI_law2 hL
  have hP := (NP_bound (la := la) (b := b) (c := c) (d := d) (hL.2.2.2.2.2.2.2.2.1)).2
  have hpl : places v = places u := by
    unfold places
    rw [e 0 (by decide) (by decide), e 1 (by decide) (by decide), e 2 (by decide) (by decide), e 3 (by decide) (by decide), e 4 (by decide) (by decide)]
  have hbp : bplace v (nI x) (nI q) = nI p := by
    rw [← hpe]
    unfold bplace
    rw [hpl, e 0 (by decide) (by decide)]
  have hg : gapAt u (nI p) = gapAt v (nI p) := by
    unfold gapAt
    rw [← e 0 (by decide) (by decide), ← e 1 (by decide) (by decide), ← e 2 (by decide) (by decide), ← e 3 (by decide) (by decide)]
    by_cases hl : u 0 = 2
    · rw [if_pos hl, if_pos hl]
    · rw [if_neg hl, if_neg hl]
      have h4 := NP_burst (fun z => hl (hl2.mpr z)) hp
      rw [nI_clamp (by omega)]
      exact e _ (by omega) (by omega)
  refine ⟨fun j hj => ?_, ?_⟩
  · unfold bw
    rw [hpe, hbp, hg]
    by_cases h7 : j = 7
    · subst h7; rw [upd_self, upd_self]
    · rw [upd_ne _ _ h7, upd_ne _ _ h7]
      by_cases h6 : j = 6
      · subst h6; rw [upd_self, upd_self]
      · rw [upd_ne _ _ h6, upd_ne _ _ h6]
        by_cases h5 : j = 5
        · subst h5; rw [upd_self, upd_self]
        · rw [upd_ne _ _ h5, upd_ne _ _ h5]
          exact e j hj h5
  · unfold bx
    rw [e 0 (by decide) (by decide)]
theorem addC_lo (S : SV) (la a b c d : Int32) {k : Nat} (hk : k < 3) : addC S la a b c d k = if k = 0 then S 0 + 1 else S k := by
  unfold addC beg
  rw [upd_ne _ _ (by omega), setC_lo _ _ _ (by omega), upd_get]
  by_cases h0 : k = 0
  · rw [if_pos h0, if_pos h0]
  · rw [if_neg h0, if_neg h0, setC_lo _ _ _ (by omega)]
/-- the clock that came, and the others -/
theorem addC_cw {S : SV} {la a b c d : Int32} {x l' a' b' c' d' : Nat} (hL : LI (w0 la a b c d (-1)) l' a' b' c' d') (hx3 : S 3 = nI x) (hx : x < 10000) : (∀ j, j < 15 → cw (addC S la a b c d) (cn S) j = bw (w0 la a b c d (-1)) (S 3) (w0 la a b c d (-1) 5 + 1) j) ∧ addC S la a b c d 3 = bx (w0 la a b c d (-1)) (S 3) ∧ (∀ i, i ≠ cn S → ∀ j, j < 15 → cw (addC S la a b c d) i j = cw S i j) ∧ (cn S < 6 → ∀ k j, gw (addC S la a b c d) k j = gw S k j) := by
  have e51 : w0 la a b c d (-1) 5 + 1 = nI 0 := by
    show (-1 : Int32) + 1 = nI 0
    decide
  have hcw : ∀ j, j < 15 → j ≠ 5 → w0 la a b c d (-1) j = cw (upd (setC S (cn S) (w0 la a b c d 0)) 0 (S 0 + 1)) (cn S) j := by
    intro j hj h5
    rw [cw_upd_lo _ _ _ (by decide), cw_setC _ _ _ hj]
    unfold w0
    simp [h5]
  obtain ⟨k1, k2⟩ := bw_congr (q := 0) hL hx (by decide) hcw
  rw [e51, hx3]
  have h3' : upd (setC S (cn S) (w0 la a b c d 0)) 0 (S 0 + 1) 3 = nI x := by rw [upd_ne _ _ (by decide), setC_lo _ _ _ (by decide), hx3]
  refine ⟨fun j hj => ?_, ?_, fun i hi j hj => ?_, fun hn k j => ?_⟩
  · unfold addC beg
    rw [cw_upd_lo _ _ _ (by decide), cw_setC _ _ _ hj, h3', k1 j hj]
    rfl
  · unfold addC beg
    rw [upd_self, h3', k2]
  · unfold addC beg
    rw [cw_upd_lo _ _ _ (by decide), cw_setC_ne _ _ hj hi, cw_upd_lo _ _ _ (by decide), cw_setC_ne _ _ hj hi]
  · unfold addC beg
    rw [gw_upd_lo _ _ _ (by decide), gw_setC _ _ hn, gw_upd_lo _ _ _ (by decide), gw_setC _ _ hn]
/-- a clock comes: its rows are set and begun, and the hall counts one more -/
theorem HR_addC {M M2 M3 : Mem} {h : Nat} {S : SV} {t : Nat} {la a b c d : Int32} {x l' a' b' c' d' : Nat} (hr : HR M h S) (hi : Inv S t) (hn : cn S < 6) (hx3 : S 3 = nI x) (hx : x < 10000) (hL : LI (w0 la a b c d (-1)) l' a' b' c' d')
    (e1 : M2 = csetM M (h + 3 + 4 * cn S) la a b c d) (q1 : M3 h = upd (M2 h) 5 (bx (w0 la a b c d (-1)) (M2 h 5))) (q2 : CR M3 (h + 3 + 4 * cn S) (bw (w0 la a b c d (-1)) (M2 h 5) (w0 la a b c d (-1) 5 + 1))) (q3 : ∀ y, y ≠ h → y ≠ h + 3 + 4 * cn S → M3 y = M2 y) :
    HR (upd2 M3 h 1 (M3 h 1 + 1)) h (addC S la a b c d) ∧ frH M (upd2 M3 h 1 (M3 h 1 + 1)) h := by
  have hm := hi.gn_le
  have hn6 := hi.cn_le
  have o1 : ∀ y, (y < h + 3 + 4 * cn S ∨ h + 7 + 4 * cn S ≤ y) → M2 y = M y := by
    intro y hy
    rw [e1]
    unfold csetM
    rw [updr_ne _ _ (by omega), updr_ne _ _ (by omega), updr_ne _ _ (by omega), updr_ne _ _ (by omega)]
  have hh : M2 h = M h := o1 h (by omega)
  rw [hh] at q1 q2
  obtain ⟨k1, k2, k3, k4⟩ := addC_cw (S := S) hL hx3 hx
  have ec : cn (addC S la a b c d) = cn S + 1 := by
    refine cn_of ?_ (by omega)
    rw [addC_lo _ _ _ _ _ _ (by decide), if_pos rfl, hn6.2, nI_1]
  have eg : gn (addC S la a b c d) = gn S := by unfold gn; rw [addC_lo _ _ _ _ _ _ (by decide), if_neg (by decide)]
  have r5 : M h 5 = S 3 := hr.2.2.2.1
  refine ⟨⟨?_, ?_, ?_, ?_, ?_, ?_⟩, fun y hy => ?_⟩
  · rw [upd2_self, q1, upd_ne _ _ (by decide), hr.1, addC_lo _ _ _ _ _ _ (by decide), if_pos rfl]
  · rw [upd2_j _ _ _ (by decide), q1, upd_ne _ _ (by decide), hr.2.1, addC_lo _ _ _ _ _ _ (by decide), if_neg (by decide)]
  · rw [upd2_j _ _ _ (by decide), q1, upd_ne _ _ (by decide), hr.2.2.1, addC_lo _ _ _ _ _ _ (by decide), if_neg (by decide)]
  · rw [upd2_j _ _ _ (by decide), q1, upd_self, k2, r5]
  · rw [ec]
    intro i hi'
    show CRr _ _ _ _ _
    rw [upd2_k _ _ _ (by omega), upd2_k _ _ _ (by omega), upd2_k _ _ _ (by omega), upd2_k _ _ _ (by omega)]
    by_cases hin : i = cn S
    · subst hin
      rw [r5] at q2
      exact CRr_congr q2 k1
    · rw [q3 _ (by omega) (by omega), q3 _ (by omega) (by omega), q3 _ (by omega) (by omega), q3 _ (by omega) (by omega), o1 _ (by omega), o1 _ (by omega), o1 _ (by omega), o1 _ (by omega)]
      exact CRr_congr (hr.2.2.2.2.1 i (by omega)) (k3 i hin)
  · rw [eg]
    intro i hi' j hj
    rw [upd2_k _ _ _ (by omega), q3 _ (by omega) (by omega), o1 _ (by omega), k4 hn]
    exact hr.2.2.2.2.2 i hi' j hj
  · rw [upd2_k _ _ _ (by omega), q3 _ (by omega) (by omega), o1 _ (by omega)]
set_option maxHeartbeats 4000000 in
set_option maxRecDepth 100000 in
theorem c_X3_addClock (l : Launch) (g : Gm) (M : Mem) (h : Nat) (hk : kd h = 3) (S : SV) (t : Nat) (hr : HR M h S) (hi : Inv S t) (la a b c d : Int32) : Cn l yX3_addClock cX3_addClock 7 (some .int) 3 68 g [.ref (ad g h), .int la, .int a, .int b, .int c, .int d] M (fun v M2 => v = some (.int (oClock S la a b c d).1) ∧ HR M2 h (oClock S la a b c d).2 ∧ frH M M2 h) := by
  refine Cn.intro (lv0 := [some (.ref (ad g h)), some (.int la), some (.int a), some (.int b), some (.int c), some (.int d), none]) 1 (by decide +kernel) (Nat.le_of_ble_eq_true rfl) rfl (fun X F r => ?_)
  obtain ⟨hk1, hk2, hkC, hkG⟩ := kd_hall hk
  have hn := hi.cn_le
  have hm := hi.gn_le
  refine g_iload_n (pc := 0) F dX3_addClock_0 rfl ?_
  refine g_iload_n (pc := 1) F dX3_addClock_1 rfl ?_
  refine g_iload_n (pc := 2) F dX3_addClock_2 rfl ?_
  refine g_iload (pc := 3) F dX3_addClock_3 rfl ?_
  refine g_iload (pc := 5) F dX3_addClock_5 rfl ?_
  refine g_callSN (pc := 7) (rf2 := 2) (rl2 := 41) F cs_X3_45 (by rfl) (by rfl) (Nat.le_of_ble_eq_true (by rfl)) (by decide) dX3_addClock_7 (c_X7_isClock _ g _ la a b c d) (fun v M2 hz => ?_)
  obtain ⟨rfl, h2⟩ := hz
  rw [h2]
  refine g_if_ne (pc := 10) (tgt := 16) F dX3_addClock_10 (by decide) (fun c10 => ?_) (fun c10 => ?_)
  · have hcP := cb_1 c10
    refine g_aload_n (pc := 16) F dX3_addClock_16 rfl ?_
    refine g_geti (pc := 17) F fl_X3_29 (by assumption) rfl dX3_addClock_17 ?_
    refine g_aload_n (pc := 20) F dX3_addClock_20 rfl ?_
    refine g_getr (pc := 21) F fl_X3_11 (by assumption) rfl dX3_addClock_21 ?_
    refine g_alenK (pc := 24) F (by assumption) (v := 6) (by decide) dX3_addClock_24 ?_
    refine g_icmp_lt (pc := 25) (tgt := 31) F dX3_addClock_25 (by decide) (fun c25 => ?_) (fun c25 => ?_)
    · rw [hr.1, hn.2] at c25
      have hn6 : cn S < 6 := (nI_ltI (b := 6) (by omega) (by decide)).mp c25
      have hk3 := hkC (cn S) hn6
      obtain ⟨l', a', b', c', d', hLI⟩ := clockP_LI (p := -1) hcP
      obtain ⟨xx, hxx, hx3⟩ := hi.2.2.2.2.1
      have eO : oClock S la a b c d = (S 0, addC S la a b c d) := by
        unfold oClock
        rw [if_pos hcP, if_neg (fun e => by rw [hn.2, show (6 : Int32) = nI 6 by decide, nI_inj (by omega) (by decide)] at e; omega)]
      rw [eO] at r
      refine g_aload_n (pc := 31) F dX3_addClock_31 rfl ?_
      refine g_getr (pc := 32) F fl_X3_11 (by assumption) rfl dX3_addClock_32 ?_
      refine g_aload_n (pc := 35) F dX3_addClock_35 rfl ?_
      refine g_geti (pc := 36) F fl_X3_29 (by assumption) rfl dX3_addClock_36 ?_
      refine g_aaldK (pc := 39) (q := cn S) (r := h + 3 + 4 * cn S) F hk1 (hr.1.trans hn.2) hn6 (by omega) dX3_addClock_39 ?_
      refine g_astore (pc := 40) F dX3_addClock_40 (by decide) rfl ?_
      refine g_aload (pc := 42) F dX3_addClock_42 rfl ?_
      refine g_iload_n (pc := 44) F dX3_addClock_44 rfl ?_
      refine g_iload_n (pc := 45) F dX3_addClock_45 rfl ?_
      refine g_iload_n (pc := 46) F dX3_addClock_46 rfl ?_
      refine g_iload (pc := 47) F dX3_addClock_47 rfl ?_
      refine g_iload (pc := 49) F dX3_addClock_49 rfl ?_
      refine g_callV (pc := 51) (rf2 := 2) (rl2 := 43) F cs_X3_51 (by assumption) rfl (by decide) (by rfl) (by rfl) (Nat.le_of_ble_eq_true (by rfl)) (by decide) dX3_addClock_51 (c_X0_set _ g _ (h + 3 + 4 * cn S) hk3 la a b c d) (fun v M2 hz => ?_)
      obtain ⟨rfl, e1⟩ := hz
      refine g_aload_n (pc := 54) F dX3_addClock_54 rfl ?_
      refine g_aload (pc := 55) F dX3_addClock_55 rfl ?_
      have hh5 : M2 h 5 = nI xx := by
        rw [e1]
        unfold csetM
        rw [updr_ne _ _ (by omega), updr_ne _ _ (by omega), updr_ne _ _ (by omega), updr_ne _ _ (by omega), hr.2.2.2.1, hx3]
      refine g_callV (pc := 57) (rf2 := 1) (rl2 := 21) F cs_X3_55 (by assumption) rfl (by decide) (by rfl) (by rfl) (Nat.le_of_ble_eq_true (by rfl)) (by decide) dX3_addClock_57 (c_X3_beginGap _ g _ h (h + 3 + 4 * cn S) hk hk3 (by omega) _ (by rw [e1]; exact CR_set M (h + 3 + 4 * cn S) la a b c d) hLI hxx hh5 (show w0 la a b c d (-1) 5 + 1 = nI 0 by show (-1 : Int32) + 1 = nI 0; decide) (Nat.zero_le _)) (fun v M3 hz => ?_)
      obtain ⟨rfl, q1, q2, q3⟩ := hz
      refine g_aload_n (pc := 60) F dX3_addClock_60 rfl ?_
      refine g_dup (pc := 61) F dX3_addClock_61 rfl ?_
      refine g_geti (pc := 62) F fl_X3_29 (by assumption) rfl dX3_addClock_62 ?_
      refine g_iconst (pc := 65) (v := 1) F dX3_addClock_65 (by decide) ?_
      refine g_iadd (pc := 66) F dX3_addClock_66 ?_
      refine g_puti (pc := 67) F fl_X3_29 rfl rfl (by assumption) rfl dX3_addClock_67 ?_
      refine g_aload_n (pc := 70) F dX3_addClock_70 rfl ?_
      refine g_geti (pc := 71) F fl_X3_29 (by assumption) rfl dX3_addClock_71 ?_
      refine g_iconst (pc := 74) (v := 1) F dX3_addClock_74 (by decide) ?_
      refine g_isub (pc := 75) F dX3_addClock_75 ?_
      refine g_iret (pc := 76) F r dX3_addClock_76 ?_
      obtain ⟨z1, z2⟩ := HR_addC hr hi hn6 hx3 hxx hLI e1 q1 q2 q3
      refine ⟨?_, z1, z2⟩
      rw [upd2_self]
      have hM1 : M3 h 1 = S 0 := by
        rw [q1, upd_ne _ _ (by decide), e1]
        unfold csetM
        rw [updr_ne _ _ (by omega), updr_ne _ _ (by omega), updr_ne _ _ (by omega), updr_ne _ _ (by omega), hr.1]
      rw [hM1, Int32.add_sub_cancel]
    · rw [hr.1, hn.2] at c25
      have eO : oClock S la a b c d = (-1000003, S) := by
        unfold oClock
        rw [if_pos hcP, if_pos (by
          have h6 : ¬ cn S < 6 := fun e => c25 ((nI_ltI (b := 6) (by omega) (by decide)).mpr e)
          rw [hn.2, show (6 : Int32) = nI 6 by decide, nI_inj (by omega) (by decide)]
          omega)]
      refine g_ldc (pc := 28) F wk_X3_50 dX3_addClock_28 ?_
      refine g_iret (pc := 30) F r dX3_addClock_30 ?_
      rw [eO]
      exact ⟨rfl, hr, frH.refl _ _⟩
  · have hcN := cb_0 c10
    refine g_ldc (pc := 13) F wk_X3_49 dX3_addClock_13 ?_
    refine g_iret (pc := 15) F r dX3_addClock_15 ?_
    have e : oClock S la a b c d = (-1000001, S) := if_neg hcN
    rw [e]
    exact ⟨rfl, hr, frH.refl _ _⟩

set_option maxHeartbeats 4000000 in
set_option maxRecDepth 100000 in
theorem c_X3_addGroup (l : Launch) (g : Gm) (M : Mem) (h : Nat) (hk : kd h = 3) (S : SV) (t : Nat) (hr : HR M h S) (hi : Inv S t) (la : Int32) : Cn l yX3_addGroup cX3_addGroup 2 (some .int) 1 21 g [.ref (ad g h), .int la] M (fun v M2 => v = some (.int (oGroup S la).1) ∧ HR M2 h (oGroup S la).2 ∧ frH M M2 h) := by
  refine Cn.intro (lv0 := [some (.ref (ad g h)), some (.int la)]) 0 (by decide +kernel) (Nat.le_of_ble_eq_true rfl) rfl (fun X F r => ?_)
  obtain ⟨hk1, hk2, hkC, hkG⟩ := kd_hall hk
  have hn := hi.cn_le
  have hm := hi.gn_le
  refine g_iload_n (pc := 0) F dX3_addGroup_0 rfl ?_
  refine g_callSN (pc := 1) (rf2 := 0) (rl2 := 0) F cs_X3_116 (by rfl) (by rfl) (Nat.le_of_ble_eq_true (by rfl)) (by decide) dX3_addGroup_1 (c_X7_isLaw _ g _ la) (fun v M2 hz => ?_)
  obtain ⟨rfl, h2⟩ := hz
  rw [h2]
  refine g_if_ne (pc := 4) (tgt := 10) F dX3_addGroup_4 (by decide) (fun c4 => ?_) (fun c4 => ?_)
  · have hcP := cb_1 c4
    refine g_aload_n (pc := 10) F dX3_addGroup_10 rfl ?_
    refine g_geti (pc := 11) F fl_X3_36 (by assumption) rfl dX3_addGroup_11 ?_
    refine g_aload_n (pc := 14) F dX3_addGroup_14 rfl ?_
    refine g_getr (pc := 15) F fl_X3_19 (by assumption) rfl dX3_addGroup_15 ?_
    refine g_alenG (pc := 18) F (by assumption) (v := 4) (by decide) dX3_addGroup_18 ?_
    refine g_icmp_lt (pc := 19) (tgt := 25) F dX3_addGroup_19 (by decide) (fun c19 => ?_) (fun c19 => ?_)
    · rw [hr.2.1, hm.2] at c19
      have hm4 : gn S < 4 := (nI_ltI (b := 4) (by omega) (by decide)).mp c19
      have hk3 := hkG (gn S) hm4
      have eO : oGroup S la = (S 1, upd (setGr S (gn S) (g0 la)) 1 (S 1 + 1)) := by
        unfold oGroup
        rw [if_pos hcP, if_neg (fun e => by rw [hm.2, show (4 : Int32) = nI 4 by decide, nI_inj (by omega) (by decide)] at e; omega)]
      rw [eO] at r
      refine g_aload_n (pc := 25) F dX3_addGroup_25 rfl ?_
      refine g_getr (pc := 26) F fl_X3_19 (by assumption) rfl dX3_addGroup_26 ?_
      refine g_aload_n (pc := 29) F dX3_addGroup_29 rfl ?_
      refine g_geti (pc := 30) F fl_X3_36 (by assumption) rfl dX3_addGroup_30 ?_
      refine g_aaldG (pc := 33) (q := gn S) (r := h + 27 + gn S) F hk2 (hr.2.1.trans hm.2) hm4 (by omega) dX3_addGroup_33 ?_
      refine g_iload_n (pc := 34) F dX3_addGroup_34 rfl ?_
      refine g_callV (pc := 35) (rf2 := 0) (rl2 := 0) F cs_X3_120 (by assumption) rfl (by decide) (by rfl) (by rfl) (Nat.le_of_ble_eq_true (by rfl)) (by decide) dX3_addGroup_35 (c_X2_set _ g _ (h + 27 + gn S) hk3 la) (fun v M2 hz => ?_)
      obtain ⟨rfl, rfl⟩ := hz
      refine g_aload_n (pc := 38) F dX3_addGroup_38 rfl ?_
      refine g_dup (pc := 39) F dX3_addGroup_39 rfl ?_
      refine g_geti (pc := 40) F fl_X3_36 (by assumption) rfl dX3_addGroup_40 ?_
      refine g_iconst (pc := 43) (v := 1) F dX3_addGroup_43 (by decide) ?_
      refine g_iadd (pc := 44) F dX3_addGroup_44 ?_
      refine g_puti (pc := 45) F fl_X3_36 rfl rfl (by assumption) rfl dX3_addGroup_45 ?_
      refine g_aload_n (pc := 48) F dX3_addGroup_48 rfl ?_
      refine g_geti (pc := 49) F fl_X3_36 (by assumption) rfl dX3_addGroup_49 ?_
      refine g_iconst (pc := 52) (v := 1) F dX3_addGroup_52 (by decide) ?_
      refine g_isub (pc := 53) F dX3_addGroup_53 ?_
      refine g_iret (pc := 54) F r dX3_addGroup_54 ?_
      obtain ⟨h0, h1, h2, h3, h4, h5⟩ := hr
      have hMh : ∀ r, updr M (h + 27 + gn S) r h = M h := fun r => updr_ne _ _ (by omega)
      have lo : ∀ k, k < 4 → upd (setGr S (gn S) (g0 la)) 1 (S 1 + 1) k = if k = 1 then S 1 + 1 else S k := by
        intro k hk
        rw [upd_get]
        by_cases h1 : k = 1
        · rw [if_pos h1, if_pos h1]
        · rw [if_neg h1, if_neg h1, setGr_lo _ _ _ hk]
      have ec : cn (upd (setGr S (gn S) (g0 la)) 1 (S 1 + 1)) = cn S := by unfold cn; rw [lo 0 (by decide), if_neg (by decide)]
      have eg : gn (upd (setGr S (gn S) (g0 la)) 1 (S 1 + 1)) = gn S + 1 := by
        refine gn_of ?_ (by omega)
        rw [lo 1 (by decide), if_pos rfl, hm.2, nI_1]
      show _ ∧ HR _ h (upd (setGr S (gn S) (g0 la)) 1 (S 1 + 1)) ∧ _
      refine ⟨?_, ⟨?_, ?_, ?_, ?_, ?_, ?_⟩, fun y hy => ?_⟩
      · rw [upd2_self, hMh, h1, Int32.add_sub_cancel]
      · rw [upd2_j _ _ _ (by decide), hMh, h0, lo 0 (by decide), if_neg (by decide)]
      · rw [upd2_self, hMh, h1, lo 1 (by decide), if_pos rfl]
      · rw [upd2_j _ _ _ (by decide), hMh, h2, lo 2 (by decide), if_neg (by decide)]
      · rw [upd2_j _ _ _ (by decide), hMh, h3, lo 3 (by decide), if_neg (by decide)]
      · rw [ec]
        intro k hk
        show CRr _ _ _ _ _
        rw [upd2_k _ _ _ (by omega), upd2_k _ _ _ (by omega), upd2_k _ _ _ (by omega), upd2_k _ _ _ (by omega), updr_ne _ _ (by omega), updr_ne _ _ (by omega), updr_ne _ _ (by omega), updr_ne _ _ (by omega), cw_upd_lo _ _ _ (by decide)]
        exact CRr_congr (h4 k hk) (fun j hj => cw_setGr _ _ _ (by omega) hj)
      · rw [eg]
        intro k hk j hj
        rw [upd2_k _ _ _ (by omega), gw_upd_lo _ _ _ (by decide)]
        by_cases hki : k = gn S
        · subst hki
          rw [updr_self, gw_setGr _ _ _ hj]
          match j, hj with
          | 0, _ | 1, _ | 2, _ | 3, _ => rfl
        · rw [updr_ne _ _ (by omega), gw_setGr_ne _ _ hj hki]
          exact h5 k (by omega) j hj
      · rw [upd2_k _ _ _ (by omega), updr_ne _ _ (by omega)]
    · rw [hr.2.1, hm.2] at c19
      have eO : oGroup S la = (-1000003, S) := by
        unfold oGroup
        rw [if_pos hcP, if_pos (by
          have h6 : ¬ gn S < 4 := fun e => c19 ((nI_ltI (b := 4) (by omega) (by decide)).mpr e)
          rw [hm.2, show (4 : Int32) = nI 4 by decide, nI_inj (by omega) (by decide)]
          omega)]
      refine g_ldc (pc := 22) F wk_X3_50 dX3_addGroup_22 ?_
      refine g_iret (pc := 24) F r dX3_addGroup_24 ?_
      rw [eO]
      exact ⟨rfl, hr, frH.refl _ _⟩
  · have hcN := cb_0 c4
    refine g_ldc (pc := 7) F wk_X3_49 dX3_addGroup_7 ?_
    refine g_iret (pc := 9) F r dX3_addGroup_9 ?_
    have e : oGroup S la = (-1000001, S) := if_neg hcN
    rw [e]
    exact ⟨rfl, hr, frH.refl _ _⟩
