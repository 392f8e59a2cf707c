/-- a group's row is changed -/
theorem HR_group {M : Mem} {h : Nat} {S : SV} {i : Nat} {r w : Nat → Int32} (hr : HR M h S) (hc : cn S ≤ 6) (hg : gn S ≤ 4) (hi : i < 4) (hw : ∀ j, j < 4 → r j = w j) : HR (updr M (h + 27 + i) r) h (setGr S i w) := by
  obtain ⟨h0, h1, h2, h3, h4, h5⟩ := hr
  have lo : ∀ k, k < 4 → setGr S i w k = S k := fun k hk => setGr_lo _ _ _ hk
  have ec : cn (setGr S i w) = cn S := by unfold cn; rw [lo 0 (by decide)]
  have eg : gn (setGr S i w) = gn S := by unfold gn; rw [lo 1 (by decide)]
  refine ⟨?_, ?_, ?_, ?_, ?_, ?_⟩
  · rw [updr_ne _ _ (by omega), lo 0 (by decide)]; exact h0
  · rw [updr_ne _ _ (by omega), lo 1 (by decide)]; exact h1
  · rw [updr_ne _ _ (by omega), lo 2 (by decide)]; exact h2
  · rw [updr_ne _ _ (by omega), lo 3 (by decide)]; exact h3
  · rw [ec]
    intro k hk
    show CRr _ _ _ _ _
    rw [updr_ne _ _ (by omega), updr_ne _ _ (by omega), updr_ne _ _ (by omega), updr_ne _ _ (by omega)]
    exact CRr_congr (h4 k hk) (fun j hj => cw_setGr _ _ _ (by omega) hj)
  · rw [eg]
    intro k hk j hj
    by_cases hki : k = i
    · subst hki
      rw [updr_self, gw_setGr _ _ _ hj]
      exact hw j hj
    · rw [updr_ne _ _ (by omega), gw_setGr_ne _ _ hj hki]
      exact h5 k hk j hj
theorem HR_now {M : Mem} {h : Nat} {S : SV} (hr : HR M h S) (hc : cn S ≤ 6) (v : Int32) : HR (upd2 M h 4 v) h (upd S 2 v) := by
  obtain ⟨h0, h1, h2, h3, h4, h5⟩ := hr
  have ec : cn (upd S 2 v) = cn S := by unfold cn; rw [upd_ne _ _ (by decide)]
  have eg : gn (upd S 2 v) = gn S := by unfold gn; rw [upd_ne _ _ (by decide)]
  refine ⟨?_, ?_, ?_, ?_, ?_, ?_⟩
  · rw [upd2_j _ _ _ (by decide), upd_ne _ _ (by decide)]; exact h0
  · rw [upd2_j _ _ _ (by decide), upd_ne _ _ (by decide)]; exact h1
  · rw [upd2_self, upd_self]
  · rw [upd2_j _ _ _ (by decide), upd_ne _ _ (by decide)]; exact h3
  · rw [ec]
    intro k hk
    show CRr _ _ _ _ _
    rw [upd2_k _ _ _ (by omega), upd2_k _ _ _ (by omega), upd2_k _ _ _ (by omega), upd2_k _ _ _ (by omega), cw_upd_lo _ _ _ (by decide)]
    exact h4 k hk
  · rw [eg]
    intro k hk j hj
    rw [upd2_k _ _ _ (by omega), gw_upd_lo _ _ _ (by decide)]
    exact h5 k hk j hj
theorem gtick_congr {r r' : Nat → Int32} (z : Int32) (h : ∀ j, j < 4 → r j = r' j) : ∀ j, j < 4 → gtick r z j = gtick r' z j := by
  intro j hj
  unfold gtick
  rw [h 1 (by decide), h 2 (by decide), h 3 (by decide), h j hj]
theorem peq_told (E : SV) (i : Nat) (u b : Nat → Int32) (x v : Int32) : ∀ k, k < 110 → upd (upd (setC (setC E i u) i b) 3 x) 2 v k = upd (setC (upd E 2 v) i b) 3 x k := by
  intro k _
  by_cases h2 : k = 2
  · subst h2
    rw [upd_self, upd_ne _ _ (by decide), setC_lo _ _ _ (by decide), upd_self]
  · rw [upd_ne _ _ h2]
    by_cases h3 : k = 3
    · subst h3; rw [upd_self, upd_self]
    · rw [upd_ne _ _ h3, upd_ne _ _ h3]
      unfold setC
      by_cases hr : 4 + 15 * i ≤ k ∧ k < 19 + 15 * i
      · rw [if_pos hr, if_pos hr]
      · rw [if_neg hr, if_neg hr, if_neg hr, upd_ne _ _ h2]
theorem peq_age (E : SV) (i : Nat) (b : Nat → Int32) (v : Int32) : ∀ k, k < 110 → upd (setC E i b) 2 v k = upd (setC (upd E 2 v) i b) 3 (E 3) k := by
  intro k _
  by_cases h2 : k = 2
  · subst h2
    rw [upd_self, upd_ne _ _ (by decide), setC_lo _ _ _ (by decide), upd_self]
  · rw [upd_ne _ _ h2]
    by_cases h3 : k = 3
    · subst h3; rw [upd_self, setC_lo _ _ _ (by decide)]
    · rw [upd_ne _ _ h3]
      unfold setC
      by_cases hr : 4 + 15 * i ≤ k ∧ k < 19 + 15 * i
      · rw [if_pos hr, if_pos hr]
      · rw [if_neg hr, if_neg hr, upd_ne _ _ h2]
/-- what a clock's tick leaves of the cells -/
theorem CR_tick {M : Mem} {c : Nat} {w : Nat → Int32} {t : Nat} (h : CR M c w) (hi : CI w t) (hT : t ≤ 100200) : (M c 4 - 1 ≤ 0 ↔ w 6 - (w 7 + 1) = 0) ∧ (M c 4 - 1 ≤ 0 → CR (tickM M c) c (tw (ow w))) ∧ (¬ M c 4 - 1 ≤ 0 → CR (tickM M c) c (ow w)) ∧ ∀ a, a ≠ c → a ≠ c + 2 → tickM M c a = M a := by
  obtain ⟨la, a, b, cc, d, p, gp, ag, sm, sq, hL, h5, hp, h6, g1, g2, h7, ha, h9, hs, h10, hq⟩ := hi
  have e4 : M c 4 - 1 = nI (gp - (ag + 1)) := by
    rw [h.2.2.2.2.1, h6, h7, nI_sub (by omega), nI1, nI_sub (by omega)]
    congr 1
  have e6 : w 6 - (w 7 + 1) = nI (gp - (ag + 1)) := by rw [h6, h7, nI_1, nI_sub (by omega)]
  refine ⟨?_, fun ht => ?_, fun ht => ?_, fun x hx1 hx2 => ?_⟩
  · rw [e4, e6, nI0, nI_leI (by omega) (by decide), nI_inj (by omega) (by decide)]
    omega
  · unfold tickM
    rw [if_pos ht]
    show CRr _ _ _ _ _
    rw [updr_ne _ _ (show c ≠ c + 2 by omega), updr_self, updr_ne _ _ (show c + 1 ≠ c + 2 by omega), updr_ne _ _ (show c + 1 ≠ c by omega), updr_self, updr_ne _ _ (show c + 3 ≠ c + 2 by omega), updr_ne _ _ (show c + 3 ≠ c by omega)]
    have := CRr_told (CRr_age h) (gp := gp) (by unfold ow; rw [upd_ne _ _ (by decide)]; exact h6) g2 (by unfold ow; rw [upd_ne _ _ (by decide)]; exact h9) (by unfold ow; rw [upd_ne _ _ (by decide)]; exact h10) (by omega) hq.1
    rw [show upd (M c) 4 (M c 4 - 1) 3 = M c 3 from upd_ne _ _ (by decide)] at this
    exact this
  · unfold tickM
    rw [if_neg ht]
    show CRr _ _ _ _ _
    rw [updr_self, updr_ne _ _ (show c + 1 ≠ c by omega), updr_ne _ _ (show c + 2 ≠ c by omega), updr_ne _ _ (show c + 3 ≠ c by omega)]
    exact CRr_age h
  · unfold tickM
    split
    · rw [updr_ne _ _ hx2, updr_ne _ _ hx1]
    · rw [updr_ne _ _ hx1]
set_option maxHeartbeats 4000000 in
set_option maxRecDepth 100000 in
/-- a tick ends -/
theorem c_X3_endTick (l : Launch) (g : Gm) (M : Mem) (h : Nat) (hk : kd h = 3) (S : SV) (t : Nat) (hr : HR M h S) (hi : Inv S t) : Cn l yX3_endTick cX3_endTick 3 (some .int) 2 42 g [.ref (ad g h)] M (fun v M2 => v = some (.int (jbc (endsZ S))) ∧ HR M2 h (ends S) ∧ frH M M2 h) := by
  refine Cn.intro (lv0 := [some (.ref (ad g h)), none, none]) 2 (by decide +kernel) (Nat.le_of_ble_eq_true rfl) rfl (fun X F r => ?_)
  obtain ⟨hk1, hk2, hkC, hkG⟩ := kd_hall hk
  have hn := hi.cn_le
  have hm := hi.gn_le
  have hE : ∀ k, k < 3 → (eC S (cn S)).1 k = S k := (eC_inv hi (cn S) (Nat.le_refl _)).1
  have hEG : ∀ i k, k < 3 → eG (eC S (cn S)).1 (eC S (cn S)).2 i k = S k := by
    intro i k hk
    induction i with
    | zero => exact hE k hk
    | succ i ih => exact (setGr_lo _ _ _ (by omega)).trans ih
  have LG : ∀ (n i : Nat) (x : Int32) (M1 : Mem), i + n = gn S → x = nI i → HR M1 h (upd (eG (eC S (cn S)).1 (eC S (cn S)).2 i) 2 (S 2 + 1)) → frH M M1 h → G X g 3 M1 67 [some (.ref (ad g h)), some (.int (eC S (cn S)).2), some (.int x)] [] := by
    intro n
    induction n with
    | zero =>
      intro i x M1 hin hx hr1 hf1
      have hG0 : upd (eG (eC S (cn S)).1 (eC S (cn S)).2 i) 2 (S 2 + 1) 1 = nI (gn S) := by rw [upd_ne _ _ (by decide), hEG i 1 (by decide)]; exact hm.2
      obtain rfl : i = gn S := by omega
      refine g_iload_n (pc := 67) F dX3_endTick_67 rfl ?_
      refine g_aload_n (pc := 68) F dX3_endTick_68 rfl ?_
      refine g_geti (pc := 69) F fl_X3_36 (by assumption) rfl dX3_endTick_69 ?_
      refine g_icmp_ge (pc := 72) (tgt := 100) F dX3_endTick_72 (by decide) (fun c72 => ?_) (fun c72 => ?_)
      · refine g_iload_n (pc := 100) F dX3_endTick_100 rfl ?_
        refine g_callS (pc := 101) (rf2 := 0) (rl2 := 0) F cs_X3_102 (by rfl) (by rfl) (Nat.le_of_ble_eq_true (by rfl)) (by decide) dX3_endTick_101 (c_J6_bitCount_0f7a4 _ g _ _) (fun v M2 hz => ?_)
        obtain ⟨rfl, h2⟩ := hz
        rw [h2]
        refine g_iret (pc := 104) F r dX3_endTick_104 ?_
        exact ⟨rfl, hr1, hf1⟩
      · exact absurd (by rw [hr1.2.1, hG0, hx]; exact nI_le (by omega) (by omega)) c72
    | succ n ih =>
      intro i x M1 hin hx hr1 hf1
      have hG0 : upd (eG (eC S (cn S)).1 (eC S (cn S)).2 i) 2 (S 2 + 1) 1 = nI (gn S) := by rw [upd_ne _ _ (by decide), hEG i 1 (by decide)]; exact hm.2
      have hTc : cn (upd (eG (eC S (cn S)).1 (eC S (cn S)).2 i) 2 (S 2 + 1)) ≤ 6 := by
        have e : cn (upd (eG (eC S (cn S)).1 (eC S (cn S)).2 i) 2 (S 2 + 1)) = cn S := congrArg Int32.toNatClampNeg ((upd_ne _ _ (by decide)).trans (hEG i 0 (by decide)))
        rw [e]; exact hn.1
      have hTe : gn (upd (eG (eC S (cn S)).1 (eC S (cn S)).2 i) 2 (S 2 + 1)) = gn S := congrArg Int32.toNatClampNeg ((upd_ne _ _ (by decide)).trans (hEG i 1 (by decide)))
      have hTg : gn (upd (eG (eC S (cn S)).1 (eC S (cn S)).2 i) 2 (S 2 + 1)) ≤ 4 := by rw [hTe]; exact hm.1
      refine g_iload_n (pc := 67) F dX3_endTick_67 rfl ?_
      refine g_aload_n (pc := 68) F dX3_endTick_68 rfl ?_
      refine g_geti (pc := 69) F fl_X3_36 (by assumption) rfl dX3_endTick_69 ?_
      refine g_icmp_ge (pc := 72) (tgt := 100) F dX3_endTick_72 (by decide) (fun c72 => ?_) (fun c72 => ?_)
      · exact absurd c72 (by rw [hr1.2.1, hG0, hx]; exact nI_ge (by omega) (by omega))
      · refine g_iload_n (pc := 75) F dX3_endTick_75 rfl ?_
        refine g_aload_n (pc := 76) F dX3_endTick_76 rfl ?_
        refine g_getr (pc := 77) F fl_X3_19 (by assumption) rfl dX3_endTick_77 ?_
        refine g_alenG (pc := 80) F (by assumption) (v := 4) (by decide) dX3_endTick_80 ?_
        refine g_icmp_ge (pc := 81) (tgt := 100) F dX3_endTick_81 (by decide) (fun c81 => ?_) (fun c81 => ?_)
        · exact absurd c81 (by rw [hx]; exact nI_ge (a := i) (b := 4) (by omega) (by decide))
        · refine g_aload_n (pc := 84) F dX3_endTick_84 rfl ?_
          refine g_getr (pc := 85) F fl_X3_19 (by assumption) rfl dX3_endTick_85 ?_
          refine g_iload_n (pc := 88) F dX3_endTick_88 rfl ?_
          refine g_aaldG (pc := 89) (q := i) (r := h + 27 + i) F hk2 hx (by omega) (by omega) dX3_endTick_89 ?_
          refine g_iload_n (pc := 90) F dX3_endTick_90 rfl ?_
          refine g_callV (pc := 91) (rf2 := 1) (rl2 := 20) F cs_X3_100 (hkG i (by omega)) rfl (by decide) (by rfl) (by rfl) (Nat.le_of_ble_eq_true (by rfl)) (by decide) dX3_endTick_91 (c_X2_passTick _ g _ (h + 27 + i) (hkG i (by omega)) _) (fun v M2 hz => ?_)
          obtain ⟨rfl, rfl⟩ := hz
          refine g_iinc (pc := 94) F dX3_endTick_94 rfl rfl (by decide) rfl ?_
          refine g_goto (pc := 97) (tgt := 67) F dX3_endTick_97 (by decide) ?_
          refine G.sub [some (.ref (ad g h)), some (.int (eC S (cn S)).2), some (.int (x + Int32.ofInt 1))] ⟨rfl, rfl, rfl, trivial⟩ (ih (i + 1) _ _ (by omega) (by rw [hx]; exact nI_1 i) ?_ ?_)
          · have e1 : eG (eC S (cn S)).1 (eC S (cn S)).2 (i + 1) = setGr (eG (eC S (cn S)).1 (eC S (cn S)).2 i) i (gtick (gw (eG (eC S (cn S)).1 (eC S (cn S)).2 i) i) (eC S (cn S)).2) := rfl
            rw [e1]
            refine HR_congr (HR_group hr1 hTc hTg (i := i) (by omega) (gtick_congr _ (fun j hj => hr1.2.2.2.2.2 i (by omega) j hj))) ?_ ?_ (fun k hk => ?_)
            · show (setGr _ i _ 0).toNatClampNeg ≤ 6
              rw [setGr_lo _ _ _ (by decide)]
              exact hTc
            · show (setGr _ i _ 1).toNatClampNeg ≤ 4
              rw [setGr_lo _ _ _ (by decide)]
              exact hTg
            · rw [gw_upd_lo _ _ _ (by decide)]
              by_cases h2 : k = 2
              · subst h2; rw [upd_self, setGr_lo _ _ _ (by decide), upd_self]
              · rw [upd_ne _ _ h2]
                unfold setGr
                split
                · rfl
                · rw [upd_ne _ _ h2]
          · exact hf1.trans (fun y hy => updr_ne _ _ (by omega))
  have LC : ∀ (n i : Nat) (x : Int32) (M1 : Mem), i + n = cn S → x = nI i → HR M1 h (upd (eC S i).1 2 (S 2 + 1)) → frH M M1 h → G X g 3 M1 14 [some (.ref (ad g h)), some (.int (eC S i).2), some (.int x)] [] := by
    intro n
    induction n with
    | zero =>
      intro i x M1 hin hx hr1 hf1
      obtain ⟨ei0, -⟩ := eC_inv hi i (by omega)
      have hT0 : upd (eC S i).1 2 (S 2 + 1) 0 = nI (cn S) := by rw [upd_ne _ _ (by decide), ei0 0 (by decide)]; exact hn.2
      obtain rfl : i = cn S := by omega
      refine g_iload_n (pc := 14) F dX3_endTick_14 rfl ?_
      refine g_aload_n (pc := 15) F dX3_endTick_15 rfl ?_
      refine g_geti (pc := 16) F fl_X3_29 (by assumption) rfl dX3_endTick_16 ?_
      refine g_icmp_ge (pc := 19) (tgt := 65) F dX3_endTick_19 (by decide) (fun c19 => ?_) (fun c19 => ?_)
      · refine g_iconst (pc := 65) (v := 0) F dX3_endTick_65 (by decide) ?_
        refine g_istore_n (pc := 66) F dX3_endTick_66 (by decide) rfl ?_
        exact LG (gn S) 0 _ M1 (by omega) nI_0.symm hr1 hf1
      · exact absurd (by rw [hr1.1, hT0, hx]; exact nI_le (by omega) (by omega)) c19
    | succ n ih =>
      intro i x M1 hin hx hr1 hf1
      obtain ⟨ei0, ⟨xx, hxx, hx3⟩, ei3, ei4, -, -⟩ := eC_inv hi i (by omega)
      have hT0 : upd (eC S i).1 2 (S 2 + 1) 0 = nI (cn S) := by rw [upd_ne _ _ (by decide), ei0 0 (by decide)]; exact hn.2
      have hTe : cn (upd (eC S i).1 2 (S 2 + 1)) = cn S := by unfold cn; rw [upd_ne _ _ (by decide), ei0 0 (by decide)]
      have hTc : cn (upd (eC S i).1 2 (S 2 + 1)) ≤ 6 := by rw [hTe]; exact hn.1
      have hTg : gn (upd (eC S i).1 2 (S 2 + 1)) ≤ 4 := by unfold gn; rw [upd_ne _ _ (by decide), ei0 1 (by decide)]; exact hm.1
      have hCI : CI (cw (eC S i).1 i) t := CI_congr (hi.2.2.2.2.2.1 i (by omega)) (fun j hj => ei4 i (by omega) (Nat.le_refl i) j hj)
      have hCR : CR M1 (h + 3 + 4 * i) (cw (eC S i).1 i) := by
        have := hr1.2.2.2.2.1 i (by omega)
        rw [cw_upd_lo _ _ _ (by decide)] at this
        exact this
      obtain ⟨k1, k2, k3, k4⟩ := CR_tick hCR hCI hi.2.2.2.1
      obtain ⟨la, a, b, cc, d, p, gp, ag, sm, sq, hLI, hp5, hpN, -⟩ := hCI
      refine g_iload_n (pc := 14) F dX3_endTick_14 rfl ?_
      refine g_aload_n (pc := 15) F dX3_endTick_15 rfl ?_
      refine g_geti (pc := 16) F fl_X3_29 (by assumption) rfl dX3_endTick_16 ?_
      refine g_icmp_ge (pc := 19) (tgt := 65) F dX3_endTick_19 (by decide) (fun c19 => ?_) (fun c19 => ?_)
      · exact absurd c19 (by rw [hr1.1, hT0, hx]; exact nI_ge (by omega) (by omega))
      · refine g_iload_n (pc := 22) F dX3_endTick_22 rfl ?_
        refine g_aload_n (pc := 23) F dX3_endTick_23 rfl ?_
        refine g_getr (pc := 24) F fl_X3_11 (by assumption) rfl dX3_endTick_24 ?_
        refine g_alenK (pc := 27) F (by assumption) (v := 6) (by decide) dX3_endTick_27 ?_
        refine g_icmp_ge (pc := 28) (tgt := 65) F dX3_endTick_28 (by decide) (fun c28 => ?_) (fun c28 => ?_)
        · exact absurd c28 (by rw [hx]; exact nI_ge (a := i) (b := 6) (by omega) (by decide))
        · refine g_aload_n (pc := 31) F dX3_endTick_31 rfl ?_
          refine g_getr (pc := 32) F fl_X3_11 (by assumption) rfl dX3_endTick_32 ?_
          refine g_iload_n (pc := 35) F dX3_endTick_35 rfl ?_
          refine g_aaldK (pc := 36) (q := i) (r := h + 3 + 4 * i) F hk1 hx (by omega) (by omega) dX3_endTick_36 ?_
          refine g_callV (pc := 37) (rf2 := 1) (rl2 := 22) F cs_X3_96 (hkC i (by omega)) rfl (by decide) (by rfl) (by rfl) (Nat.le_of_ble_eq_true (by rfl)) (by decide) dX3_endTick_37 (c_X0_passTick _ g _ (h + 3 + 4 * i) (hkC i (by omega))) (fun v M2 hz => ?_)
          obtain ⟨rfl, rfl⟩ := hz
          refine g_if_eq (pc := 40) (tgt := 59) F dX3_endTick_40 (by decide) (fun c40 => ?_) (fun c40 => ?_)
          · have hT : ¬ M1 (h + 3 + 4 * i) 4 - 1 ≤ 0 := fun e => by unfold b2i at c40; rw [if_pos e] at c40; exact absurd c40 (by decide)
            refine g_iinc (pc := 59) F dX3_endTick_59 rfl rfl (by decide) rfl ?_
            refine g_goto (pc := 62) (tgt := 14) F dX3_endTick_62 (by decide) ?_
            refine G.sub [some (.ref (ad g h)), some (.int (eC S (i + 1)).2), some (.int (x + Int32.ofInt 1))] ⟨?_, ?_, ?_, trivial⟩ (ih (i + 1) _ _ (by omega) (by rw [hx]; exact nI_1 i) ?_ ?_)
            · rfl
            · show some (Value.int _) = some (Value.int (if _ then _ else _))
              rw [if_neg (fun e => hT (k1.mpr e))]
            · rfl
            · have e1 : (eC S (i + 1)).1 = setC (eC S i).1 i (ow (cw (eC S i).1 i)) := by
                show sC _ i = _
                unfold sC
                rw [if_neg (fun e => hT (k1.mpr e))]
              rw [e1]
              refine HR_congr (HR_clock (i := i) (w := ow (cw (eC S i).1 i)) (x := (eC S i).1 3) hr1 hTc hTg (by omega) ?_ (fun y y1 y2 y3 y4 => k4 y (by omega) (by omega)) (k3 hT)) ?_ ?_ (peq_age _ _ _ _)
              · rw [k4 h (by omega) (by omega)]
                funext j
                unfold upd
                split
                · next e => rw [e, hr1.2.2.2.1, upd_ne _ _ (by decide)]
                · rfl
              · show (upd (setC _ i _) 3 _ 0).toNatClampNeg ≤ 6
                rw [upd_ne _ _ (by decide), setC_lo _ _ _ (by decide)]
                exact hTc
              · show (upd (setC _ i _) 3 _ 1).toNatClampNeg ≤ 4
                rw [upd_ne _ _ (by decide), setC_lo _ _ _ (by decide)]
                exact hTg
            · exact hf1.trans (fun y hy => k4 y (by omega) (by omega))
          · have hT : M1 (h + 3 + 4 * i) 4 - 1 ≤ 0 := Classical.byContradiction (fun e => by unfold b2i at c40; rw [if_neg e] at c40; exact c40 rfl)
            refine g_iload_n (pc := 43) F dX3_endTick_43 rfl ?_
            refine g_iconst (pc := 44) (v := 1) F dX3_endTick_44 (by decide) ?_
            refine g_iload_n (pc := 45) F dX3_endTick_45 rfl ?_
            refine g_ishl (pc := 46) F dX3_endTick_46 ?_
            refine g_ior (pc := 47) F dX3_endTick_47 ?_
            refine g_istore_n (pc := 48) F dX3_endTick_48 (by decide) rfl ?_
            refine g_aload_n (pc := 49) F dX3_endTick_49 rfl ?_
            refine g_aload_n (pc := 50) F dX3_endTick_50 rfl ?_
            refine g_getr (pc := 51) F fl_X3_11 (by assumption) rfl dX3_endTick_51 ?_
            refine g_iload_n (pc := 54) F dX3_endTick_54 rfl ?_
            refine g_aaldK (pc := 55) (q := i) (r := h + 3 + 4 * i) F hk1 hx (by omega) (by omega) dX3_endTick_55 ?_
            have hCR2 := CRr_congr (w' := cw (setC (eC S i).1 i (tw (ow (cw (eC S i).1 i)))) i) (k2 hT) (fun j hj => cw_setC _ _ _ hj)
            have hMh : tickM M1 (h + 3 + 4 * i) h = M1 h := k4 h (by omega) (by omega)
            have hw5 : cw (setC (eC S i).1 i (tw (ow (cw (eC S i).1 i)))) i 5 + 1 = nI (p + 1) := by
              rw [cw_setC _ _ _ (by decide), ← nI_1, ← hp5]
              rfl
            have hLI2 : LI (cw (setC (eC S i).1 i (tw (ow (cw (eC S i).1 i)))) i) la a b cc d := LI_congr hLI (fun j hj => by
              rw [cw_setC _ _ _ (by omega)]
              unfold tw ow
              rw [upd_ne _ _ (by omega), upd_ne _ _ (by omega), upd_ne _ _ (by omega), upd_ne _ _ (by omega), upd_ne _ _ (by omega)])
            refine g_callV (pc := 56) (rf2 := 1) (rl2 := 21) F cs_X3_55 (by assumption) rfl (by decide) (by rfl) (by rfl) (Nat.le_of_ble_eq_true (by rfl)) (by decide) dX3_endTick_56 (c_X3_beginGap _ g _ h (h + 3 + 4 * i) hk (hkC i (by omega)) (by omega) _ hCR2 hLI2 hxx (by rw [hMh, hr1.2.2.2.1, upd_ne _ _ (by decide)]; exact hx3) hw5 (by omega)) (fun v M2 hz => ?_)
            obtain ⟨rfl, q1, q2, q3⟩ := hz
            refine g_iinc (pc := 59) F dX3_endTick_59 rfl rfl (by decide) rfl ?_
            refine g_goto (pc := 62) (tgt := 14) F dX3_endTick_62 (by decide) ?_
            refine G.sub [some (.ref (ad g h)), some (.int (eC S (i + 1)).2), some (.int (x + Int32.ofInt 1))] ⟨?_, ?_, ?_, trivial⟩ (ih (i + 1) _ _ (by omega) (by rw [hx]; exact nI_1 i) ?_ ?_)
            · rfl
            · show some (Value.int _) = some (Value.int (if _ then _ else _))
              rw [if_pos (k1.mp hT), hx]
            · rfl
            · have e1 : (eC S (i + 1)).1 = beg (setC (eC S i).1 i (tw (ow (cw (eC S i).1 i)))) i (cw (eC S i).1 i 5 + 1) := by
                show sC _ i = _
                unfold sC
                rw [if_pos (k1.mp hT)]
              rw [e1]
              unfold beg
              have e5 : cw (eC S i).1 i 5 + 1 = cw (setC (eC S i).1 i (tw (ow (cw (eC S i).1 i)))) i 5 + 1 := by rw [cw_setC _ _ _ (by decide)]; rfl
              have e3 : tickM M1 (h + 3 + 4 * i) h 5 = setC (eC S i).1 i (tw (ow (cw (eC S i).1 i))) 3 := by rw [hMh, hr1.2.2.2.1, upd_ne _ _ (by decide), setC_lo _ _ _ (by decide)]
              rw [e5]
              rw [e3] at q1 q2
              rw [hMh] at q1
              refine HR_congr (HR_clock (i := i) hr1 hTc hTg (by omega) q1 (fun y y1 y2 y3 y4 => (q3 y y3 (by omega)).trans (k4 y (by omega) (by omega))) q2) ?_ ?_ (peq_told _ _ _ _ _ _)
              · show (upd (setC _ i _) 3 _ 0).toNatClampNeg ≤ 6
                rw [upd_ne _ _ (by decide), setC_lo _ _ _ (by decide)]
                exact hTc
              · show (upd (setC _ i _) 3 _ 1).toNatClampNeg ≤ 4
                rw [upd_ne _ _ (by decide), setC_lo _ _ _ (by decide)]
                exact hTg
            · exact (hf1.trans (fun y hy => k4 y (by omega) (by omega))).trans (fun y hy => q3 y (by omega) (by omega))
  refine g_aload_n (pc := 0) F dX3_endTick_0 rfl ?_
  refine g_dup (pc := 1) F dX3_endTick_1 rfl ?_
  refine g_geti (pc := 2) F fl_X3_42 (by assumption) rfl dX3_endTick_2 ?_
  refine g_iconst (pc := 5) (v := 1) F dX3_endTick_5 (by decide) ?_
  refine g_iadd (pc := 6) F dX3_endTick_6 ?_
  refine g_puti (pc := 7) F fl_X3_42 rfl rfl (by assumption) rfl dX3_endTick_7 ?_
  refine g_iconst (pc := 10) (v := 0) F dX3_endTick_10 (by decide) ?_
  refine g_istore_n (pc := 11) F dX3_endTick_11 (by decide) rfl ?_
  refine g_iconst (pc := 12) (v := 0) F dX3_endTick_12 (by decide) ?_
  refine g_istore_n (pc := 13) F dX3_endTick_13 (by decide) rfl ?_
  exact LC (cn S) 0 _ _ (by omega) nI_0.symm (by rw [hr.2.2.1]; exact HR_now hr hn.1 _) (fun y hy => upd2_k _ _ _ (by omega))
