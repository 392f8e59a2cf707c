/-! the check: a tick ends, ticks end -/
theorem memRest (M : Mem) (S : SV) (i : Nat) (w : Nat → Int32) : restW (updr M 225 (setC S i w) 225) i = w 6 - w 7 := by
  show cw _ i 6 - cw _ i 7 = _
  rw [updr_self, cw_setC _ _ _ (by decide), cw_setC _ _ _ (by decide)]
theorem setC_ext (S : SV) (i : Nat) {w w' : Nat → Int32} (h : ∀ j, j < 15 → w j = w' j) : setC S i w = setC S i w' := by
  funext k
  unfold setC
  by_cases h2 : 4 + 15 * i ≤ k ∧ k < 19 + 15 * i
  · rw [if_pos h2, if_pos h2]
    exact h _ (by omega)
  · rw [if_neg h2, if_neg h2]
theorem tw_ext {w w' : Nat → Int32} (h : ∀ j, j < 15 → w j = w' j) : ∀ j, j < 15 → tw w j = tw w' j := by
  intro j hj
  unfold tw
  simp only [upd_get]
  rw [h 8 (by decide), h 9 (by decide), h 6 (by decide), h 10 (by decide), h 11 (by decide), h j hj]
theorem telS_sC {E : SV} {i : Nat} (h : tC E i) : telS (setC E i (ow (cw E i))) i = sC E i := by
  unfold telS sC
  rw [if_pos h, setC_setC, setC_ext E i (tw_ext (fun j hj => cw_setC E i (ow (cw E i)) hj)), cw_setC _ _ _ (by decide)]
  rfl
theorem memG (M : Mem) (S : SV) (i : Nat) (v : Int32) : upd2 (updr M 225 S) 225 i v = updr M 225 (upd S i v) := updr_upd2 _ _ _ _ _
set_option maxHeartbeats 4000000 in
set_option maxRecDepth 100000 in
theorem c_X8_ends (l : Launch) (g : Gm) (M : Mem) (t : Nat) (hi : Inv (M 225) t) : Cn l yX8_ends cX8_ends 4 none 4 90 g [.ref (ad g 224)] M (fun v M2 => v = none ∧ M2 = updr M 225 (ends (M 225))) := by
  refine Cn.intro (lv0 := [some (.ref (ad g 224)), none, none, none]) 3 (by decide +kernel) (Nat.le_of_ble_eq_true rfl) rfl (fun X F r => ?_)
  have k224 := kd224
  have k225 := kd225
  have hn := hi.cn_le
  have hm := hi.gn_le
  obtain ⟨a1, -, a3, -, -, z, hz0, hz⟩ := eC_inv hi (cn (M 225)) (Nat.le_refl _)
  have hz6 : z < 64 := Nat.lt_of_lt_of_le hz0 (Nat.le_trans (Nat.pow_le_pow_right (by decide) hn.1) (by decide))
  have hGI := hi.2.2.2.2.2.2
  have hB := eG_inv (S := (eC (M 225) (cn (M 225))).1) hz6 t (gn (M 225)) hm.1 (fun k hk => GI_congr (hGI k hk) (fun j hj => a3 k j hj))
  have L2 : ∀ (n i : Nat) (y : Int32) (w3 : Option Value), i + n = gn (M 225) → y = nI i → G X g 4 (updr M 225 (eG (eC (M 225) (cn (M 225))).1 (nI z) i)) 49 [some (.ref (ad g 224)), some (.int (nI z)), some (.int y), w3] [] := by
    intro n
    induction n with
    | zero =>
      intro i y w3 hin hy
      obtain rfl : i = gn (M 225) := by omega
      obtain ⟨b1, -, b3, -⟩ := hB (gn (M 225)) (Nat.le_refl _)
      refine g_iload_n (pc := 49) F dX8_ends_49 rfl ?_
      refine g_aload_n (pc := 50) F dX8_ends_50 rfl ?_
      refine g_getr (pc := 51) F fl_X8_7 (by assumption) rfl dX8_ends_51 ?_
      refine g_iconst (pc := 54) (v := 1) F dX8_ends_54 (by decide) ?_
      refine g_iald (pc := 55) (q := 1) F k225 rfl (by decide) (by decide) dX8_ends_55 ?_
      refine g_icmp_ge (pc := 56) (tgt := 121) F dX8_ends_56 (by decide) (fun c56 => ?_) (fun c56 => ?_)
      · refine g_aload_n (pc := 121) F dX8_ends_121 rfl ?_
        refine g_getr (pc := 122) F fl_X8_7 (by assumption) rfl dX8_ends_122 ?_
        refine g_iconst (pc := 125) (v := 2) F dX8_ends_125 (by decide) ?_
        refine g_dup2 (pc := 126) F dX8_ends_126 rfl rfl ?_
        refine g_iald (pc := 127) (q := 2) F k225 rfl (by decide) (by decide) dX8_ends_127 ?_
        refine g_iconst (pc := 128) (v := 1) F dX8_ends_128 (by decide) ?_
        refine g_iadd (pc := 129) F dX8_ends_129 ?_
        refine g_iast (pc := 130) (q := 2) F k225 rfl (by decide) (by decide) dX8_ends_130 ?_
        refine g_vret (pc := 131) F r dX8_ends_131 ?_
        refine ⟨rfl, ?_⟩
        rw [memG, updr_self, b1 2 (by decide), a1 2 (by decide)]
        unfold ends
        rw [hz]
      · exact absurd (by rw [updr_self, b1 1 (by decide), a1 1 (by decide), hm.2, hy]; exact nI_le (by omega) (by omega)) c56
    | succ n ih =>
      intro i y w3 hin hy
      obtain ⟨b1, -, b3, -⟩ := hB i (by omega)
      refine g_iload_n (pc := 49) F dX8_ends_49 rfl ?_
      refine g_aload_n (pc := 50) F dX8_ends_50 rfl ?_
      refine g_getr (pc := 51) F fl_X8_7 (by assumption) rfl dX8_ends_51 ?_
      refine g_iconst (pc := 54) (v := 1) F dX8_ends_54 (by decide) ?_
      refine g_iald (pc := 55) (q := 1) F k225 rfl (by decide) (by decide) dX8_ends_55 ?_
      refine g_icmp_ge (pc := 56) (tgt := 121) F dX8_ends_56 (by decide) (fun c56 => ?_) (fun c56 => ?_)
      · exact absurd c56 (by rw [updr_self, b1 1 (by decide), a1 1 (by decide), hm.2, hy]; exact nI_ge (by omega) (by omega))
      · obtain ⟨la0, y0, mt0, -, -, g2, g3, -⟩ := hGI i (by omega)
        have hg1 : gw (eG (eC (M 225) (cn (M 225))).1 (nI z) i) i 1 = nI y0 := (b3 i (Nat.le_refl i) 1 (by decide)).trans ((a3 i 1 (by decide)).trans g2)
        have hzz := iand_nI z hz6 y0 g3
        obtain ⟨zz, hzze⟩ : ∃ zz, zz = z := ⟨z, rfl⟩
        have hj : jbc (gw (eG (eC (M 225) (cn (M 225))).1 (nI z) i) i 1 &&& nI z) = jbc (nI (zz &&& y0)) := by rw [hg1, Int32.and_comm, hzz.1, hzze]
        rw [hg1] at hj
        refine g_aload_n (pc := 59) F dX8_ends_59 rfl ?_
        refine g_iload_n (pc := 60) F dX8_ends_60 rfl ?_
        refine g_aload_n (pc := 61) F dX8_ends_61 rfl ?_
        refine g_iload_n (pc := 62) F dX8_ends_62 rfl ?_
        refine g_iconst (pc := 63) (v := 1) F dX8_ends_63 (by decide) ?_
        refine g_stk (st' := [.int (nI 1), .int (nI i), .ref (ad g 224), .int (nI z), .ref (ad g 224)]) (by rw [hy] <;> rfl) ?_
        refine g_callV (pc := 64) (rf2 := 0) (rl2 := 0) F cs_X8_68 k224 rfl (by decide) (by rfl) (by rfl) (Nat.le_of_ble_eq_true (by rfl)) (by decide) dX8_ends_64 (c_X8_ofGroup _ g _ i (by omega) 1 (by decide)) (fun v M2 hz' => ?_)
        obtain ⟨rfl, h2⟩ := hz'
        rw [h2, updr_self, show eG (eC (M 225) (cn (M 225))).1 (nI z) i (94 + 4 * i + 1) = nI y0 from hg1]
        refine g_iand (pc := 67) F dX8_ends_67 ?_
        refine g_stk (st' := [.int (nI (zz &&& y0)), .ref (ad g 224)]) (by rw [hzz.1, hzze] <;> rfl) ?_
        refine g_callV (pc := 68) (rf2 := 0) (rl2 := 0) F cs_X8_71 k224 rfl (by decide) (by rfl) (by rfl) (Nat.le_of_ble_eq_true (by rfl)) (by decide) dX8_ends_68 (c_X8_ones _ g _ (zz &&& y0) (by rw [hzze]; exact hzz.2)) (fun v M2 hz' => ?_)
        obtain ⟨rfl, h2⟩ := hz'
        rw [h2]
        refine g_istore_n (pc := 71) F dX8_ends_71 (by decide) rfl ?_
        refine g_aload_n (pc := 72) F dX8_ends_72 rfl ?_
        refine g_getr (pc := 73) F fl_X8_7 (by assumption) rfl dX8_ends_73 ?_
        refine g_bipush (pc := 76) (v := 94) F dX8_ends_76 (by decide) ?_
        refine g_iconst (pc := 78) (v := 4) F dX8_ends_78 (by decide) ?_
        refine g_iload_n (pc := 79) F dX8_ends_79 rfl ?_
        refine g_imul (pc := 80) F dX8_ends_80 ?_
        refine g_iadd (pc := 81) F dX8_ends_81 ?_
        refine g_iconst (pc := 82) (v := 2) F dX8_ends_82 (by decide) ?_
        refine g_iadd (pc := 83) F dX8_ends_83 ?_
        refine g_dup2 (pc := 84) F dX8_ends_84 rfl rfl ?_
        refine g_iald (pc := 85) (q := 94 + 4 * i + 2) F k225 rfl (by rw [hy]; exact ixG i 2) (by omega) dX8_ends_85 ?_
        refine g_iload_n (pc := 86) F dX8_ends_86 rfl ?_
        refine g_iadd (pc := 87) F dX8_ends_87 ?_
        refine g_iast (pc := 88) (q := 94 + 4 * i + 2) F k225 rfl (by rw [hy]; exact ixG i 2) (by omega) dX8_ends_88 ?_
        refine g_aload_n (pc := 89) F dX8_ends_89 rfl ?_
        refine g_getr (pc := 90) F fl_X8_7 (by assumption) rfl dX8_ends_90 ?_
        refine g_bipush (pc := 93) (v := 94) F dX8_ends_93 (by decide) ?_
        refine g_iconst (pc := 95) (v := 4) F dX8_ends_95 (by decide) ?_
        refine g_iload_n (pc := 96) F dX8_ends_96 rfl ?_
        refine g_imul (pc := 97) F dX8_ends_97 ?_
        refine g_iadd (pc := 98) F dX8_ends_98 ?_
        refine g_iconst (pc := 99) (v := 3) F dX8_ends_99 (by decide) ?_
        refine g_iadd (pc := 100) F dX8_ends_100 ?_
        refine g_dup2 (pc := 101) F dX8_ends_101 rfl rfl ?_
        refine g_iald (pc := 102) (q := 94 + 4 * i + 3) F k225 rfl (by rw [hy]; exact ixG i 3) (by omega) dX8_ends_102 ?_
        refine g_iload_n (pc := 103) F dX8_ends_103 rfl ?_
        refine g_iconst (pc := 104) (v := 1) F dX8_ends_104 (by decide) ?_
        refine g_icmp_le (pc := 105) (tgt := 112) F dX8_ends_105 (by decide) (fun c105 => ?_) (fun c105 => ?_)
        · refine g_iconst (pc := 112) (v := 0) F dX8_ends_112 (by decide) ?_
          refine g_iadd (pc := 113) F dX8_ends_113 ?_
          refine g_iast (pc := 114) (q := 94 + 4 * i + 3) F k225 rfl (by rw [hy]; exact ixG i 3) (by omega) dX8_ends_114 ?_
          refine g_iinc (pc := 115) F dX8_ends_115 rfl rfl (by decide) rfl ?_
          refine g_goto (pc := 118) (tgt := 49) F dX8_ends_118 (by decide) ?_
          refine G.mem (M' := updr M 225 (eG (eC (M 225) (cn (M 225))).1 (nI z) (i + 1))) ?_ (G.sub [some (.ref (ad g 224)), some (.int (nI z)), some (.int (y + Int32.ofInt 1)), some (.int (jbc (nI (zz &&& y0))))] ⟨rfl, rfl, rfl, rfl, trivial⟩ (ih (i + 1) _ _ (by omega) (by rw [hy]; exact nI_1 i)))
          show _ = updr M 225 (setGr (eG (eC (M 225) (cn (M 225))).1 (nI z) i) i (gtick (gw (eG (eC (M 225) (cn (M 225))).1 (nI z) i) i) (nI z)))
          rw [← grp_upd, hg1]
          rw [memG, updr_self, memG]
          rw [hj]
          congr 2
          show _ + _ = _ + (if 1 < jbc (nI (zz &&& y0)) then 1 else 0)
          rw [if_neg (fun e => Int32.not_lt.mpr c105 e)]
          show updr M 225 (upd (eG (eC (M 225) (cn (M 225))).1 (nI z) i) (94 + 4 * i + 2) _) 225 (94 + 4 * i + 3) + _ = _
          rw [updr_self, upd_ne _ _ (by omega)]
          rfl
        · refine g_iconst (pc := 108) (v := 1) F dX8_ends_108 (by decide) ?_
          refine g_goto (pc := 109) (tgt := 113) F dX8_ends_109 (by decide) ?_
          refine g_iadd (pc := 113) F dX8_ends_113 ?_
          refine g_iast (pc := 114) (q := 94 + 4 * i + 3) F k225 rfl (by rw [hy]; exact ixG i 3) (by omega) dX8_ends_114 ?_
          refine g_iinc (pc := 115) F dX8_ends_115 rfl rfl (by decide) rfl ?_
          refine g_goto (pc := 118) (tgt := 49) F dX8_ends_118 (by decide) ?_
          refine G.mem (M' := updr M 225 (eG (eC (M 225) (cn (M 225))).1 (nI z) (i + 1))) ?_ (G.sub [some (.ref (ad g 224)), some (.int (nI z)), some (.int (y + Int32.ofInt 1)), some (.int (jbc (nI (zz &&& y0))))] ⟨rfl, rfl, rfl, rfl, trivial⟩ (ih (i + 1) _ _ (by omega) (by rw [hy]; exact nI_1 i)))
          show _ = updr M 225 (setGr (eG (eC (M 225) (cn (M 225))).1 (nI z) i) i (gtick (gw (eG (eC (M 225) (cn (M 225))).1 (nI z) i) i) (nI z)))
          rw [← grp_upd, hg1]
          rw [memG, updr_self, memG]
          rw [hj]
          congr 2
          show _ + _ = _ + (if 1 < jbc (nI (zz &&& y0)) then 1 else 0)
          rw [if_pos (Int32.not_le.mp c105)]
          show updr M 225 (upd (eG (eC (M 225) (cn (M 225))).1 (nI z) i) (94 + 4 * i + 2) _) 225 (94 + 4 * i + 3) + _ = _
          rw [updr_self, upd_ne _ _ (by omega)]
          rfl
  have L1 : ∀ (n i : Nat) (y : Int32), i + n = cn (M 225) → y = nI i → G X g 4 (updr M 225 (eC (M 225) i).1) 4 [some (.ref (ad g 224)), some (.int (eC (M 225) i).2), some (.int y), none] [] := by
    intro n
    induction n with
    | zero =>
      intro i y hin hy
      obtain rfl : i = cn (M 225) := by omega
      refine g_iload_n (pc := 4) F dX8_ends_4 rfl ?_
      refine g_aload_n (pc := 5) F dX8_ends_5 rfl ?_
      refine g_getr (pc := 6) F fl_X8_7 (by assumption) rfl dX8_ends_6 ?_
      refine g_iconst (pc := 9) (v := 0) F dX8_ends_9 (by decide) ?_
      refine g_iald (pc := 10) (q := 0) F k225 rfl (by decide) (by decide) dX8_ends_10 ?_
      refine g_icmp_ge (pc := 11) (tgt := 47) F dX8_ends_11 (by decide) (fun c11 => ?_) (fun c11 => ?_)
      · refine g_iconst (pc := 47) (v := 0) F dX8_ends_47 (by decide) ?_
        refine g_istore_n (pc := 48) F dX8_ends_48 (by decide) rfl ?_
        rw [hz]
        exact L2 (gn (M 225)) 0 _ _ (by omega) nI0
      · exact absurd (by rw [updr_self, a1 0 (by decide), hn.2, hy]; exact nI_le (by omega) (by omega)) c11
    | succ n ih =>
      intro i y hin hy
      obtain ⟨a1, ⟨x, hx1, hx2⟩, a3, a4, -, -⟩ := eC_inv hi i (by omega)
      refine g_iload_n (pc := 4) F dX8_ends_4 rfl ?_
      refine g_aload_n (pc := 5) F dX8_ends_5 rfl ?_
      refine g_getr (pc := 6) F fl_X8_7 (by assumption) rfl dX8_ends_6 ?_
      refine g_iconst (pc := 9) (v := 0) F dX8_ends_9 (by decide) ?_
      refine g_iald (pc := 10) (q := 0) F k225 rfl (by decide) (by decide) dX8_ends_10 ?_
      refine g_icmp_ge (pc := 11) (tgt := 47) F dX8_ends_11 (by decide) (fun c11 => ?_) (fun c11 => ?_)
      · exact absurd c11 (by rw [updr_self, a1 0 (by decide), hn.2, hy]; exact nI_ge (by omega) (by omega))
      · refine g_aload_n (pc := 14) F dX8_ends_14 rfl ?_
        refine g_iload_n (pc := 15) F dX8_ends_15 rfl ?_
        refine g_bipush (pc := 16) (v := 7) F dX8_ends_16 (by decide) ?_
        refine g_iconst (pc := 18) (v := 1) F dX8_ends_18 (by decide) ?_
        refine G.mem (M' := updr M 225 (setC (eC (M 225) i).1 i (cw (eC (M 225) i).1 i))) (by rw [setC_cw]) ?_
        refine g_stk (st' := [.int 1, .int (nI 7), .int (nI i), .ref (ad g 224)]) (by rw [hy] <;> rfl) ?_
        refine g_callV (pc := 19) (rf2 := 0) (rl2 := 0) F cs_X8_54 k224 rfl (by decide) (by rfl) (by rfl) (Nat.le_of_ble_eq_true (by rfl)) (by decide) dX8_ends_19 (c_X8_adds _ g _ i (by omega) 7 (by decide) 1) (fun v M2 hz => ?_)
        obtain ⟨rfl, h2⟩ := hz
        rw [h2, memCr (q := 7) _ _ _ _ (by decide), memC (q := 7) _ _ _ _ (by decide)]
        refine G.mem (M' := updr M 225 (setC (eC (M 225) i).1 i (ow (cw (eC (M 225) i).1 i)))) rfl ?_
        refine g_aload_n (pc := 22) F dX8_ends_22 rfl ?_
        refine g_iload_n (pc := 23) F dX8_ends_23 rfl ?_
        refine g_stk (st' := [.int (nI i), .ref (ad g 224)]) (by rw [hy] <;> rfl) ?_
        refine g_callV (pc := 24) (rf2 := 1) (rl2 := 22) F cs_X8_61 k224 rfl (by decide) (by rfl) (by rfl) (Nat.le_of_ble_eq_true (by rfl)) (by decide) dX8_ends_24 (c_X8_rest _ g _ i (by omega)) (fun v M2 hz => ?_)
        obtain ⟨rfl, h2⟩ := hz
        rw [h2, memRest]
        refine g_if_ne (pc := 27) (tgt := 41) F dX8_ends_27 (by decide) (fun c27 => ?_) (fun c27 => ?_)
        · have hT : ¬ tC (eC (M 225) i).1 i := c27
          refine g_iinc (pc := 41) F dX8_ends_41 rfl rfl (by decide) rfl ?_
          refine g_goto (pc := 44) (tgt := 4) F dX8_ends_44 (by decide) ?_
          refine G.mem (M' := updr M 225 (eC (M 225) (i + 1)).1) ?_ (G.sub [some (.ref (ad g 224)), some (.int (eC (M 225) (i + 1)).2), some (.int (y + Int32.ofInt 1)), none] ⟨rfl, ?_, rfl, trivial⟩ (ih (i + 1) _ (by omega) (by rw [hy]; exact nI_1 i)))
          · show updr M 225 _ = updr M 225 (sC (eC (M 225) i).1 i)
            rw [show sC (eC (M 225) i).1 i = setC (eC (M 225) i).1 i (ow (cw (eC (M 225) i).1 i)) from if_neg hT]
          · show some (Value.int _) = some (Value.int (if tC (eC (M 225) i).1 i then _ else _))
            rw [if_neg hT]
        · have hT : tC (eC (M 225) i).1 i := c27
          refine g_aload_n (pc := 30) F dX8_ends_30 rfl ?_
          refine g_iload_n (pc := 31) F dX8_ends_31 rfl ?_
          obtain ⟨la, a, b, c, d, p, gp, ag, sm, sq, hL, h5, hp, -⟩ := CI_congr (hi.2.2.2.2.2.1 i (by omega)) (fun j hj => a4 i (by omega) (Nat.le_refl i) j hj)
          have hNP := NP_bound (la := la) (b := b) (c := c) (d := d) hL.2.2.2.2.2.2.2.2.1
          refine g_stk (st' := [.int (nI i), .ref (ad g 224)]) (by rw [hy] <;> rfl) ?_
          refine g_callV (pc := 32) (rf2 := 3) (rl2 := 68) F cs_X8_64 k224 rfl (by decide) (by rfl) (by rfl) (Nat.le_of_ble_eq_true (by rfl)) (by decide) dX8_ends_32 (c_X8_tells _ g _ i (by omega) la a b c d x p (by rw [updr_self]; exact LI_congr hL (fun j hj => (cw_setC _ _ _ (by omega)).trans (upd_ne _ _ (by omega)))) hx1 (by rw [updr_self, setC_lo _ _ _ (by decide)]; exact hx2) (by rw [updr_self, cw_setC _ _ _ (by decide)]; exact h5) (by omega)) (fun v M2 hz => ?_)
          obtain ⟨rfl, h2⟩ := hz
          rw [h2, updr_updr, updr_self]
          refine g_iload_n (pc := 35) F dX8_ends_35 rfl ?_
          refine g_iconst (pc := 36) (v := 1) F dX8_ends_36 (by decide) ?_
          refine g_iload_n (pc := 37) F dX8_ends_37 rfl ?_
          refine g_ishl (pc := 38) F dX8_ends_38 ?_
          refine g_ior (pc := 39) F dX8_ends_39 ?_
          refine g_istore_n (pc := 40) F dX8_ends_40 (by decide) rfl ?_
          refine g_iinc (pc := 41) F dX8_ends_41 rfl rfl (by decide) rfl ?_
          refine g_goto (pc := 44) (tgt := 4) F dX8_ends_44 (by decide) ?_
          refine G.mem (M' := updr M 225 (eC (M 225) (i + 1)).1) ?_ (G.sub [some (.ref (ad g 224)), some (.int (eC (M 225) (i + 1)).2), some (.int (y + Int32.ofInt 1)), none] ⟨rfl, ?_, rfl, trivial⟩ (ih (i + 1) _ (by omega) (by rw [hy]; exact nI_1 i)))
          · show updr M 225 _ = updr M 225 (sC (eC (M 225) i).1 i)
            rw [← telS_sC hT]
          · show some (Value.int _) = some (Value.int (if tC (eC (M 225) i).1 i then _ else _))
            rw [if_pos hT, hy]
  refine g_iconst (pc := 0) (v := 0) F dX8_ends_0 (by decide) ?_
  refine g_istore_n (pc := 1) F dX8_ends_1 (by decide) rfl ?_
  refine g_iconst (pc := 2) (v := 0) F dX8_ends_2 (by decide) ?_
  refine g_istore_n (pc := 3) F dX8_ends_3 (by decide) rfl ?_
  refine G.mem (M' := updr M 225 (eC (M 225) 0).1) (by show M = updr M 225 (M 225); rw [updr_same]) ?_
  exact L1 (cn (M 225)) 0 _ (by omega) nI0

