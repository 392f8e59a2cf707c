/-! the check: meets -/
theorem gw_met {S : SV} {t : Nat} (hi : Inv S t) {gi : Nat} (h : gi < gn S) : ∃ m, m ≤ t ∧ gw S gi 3 = nI m := by
  obtain ⟨la, z, mt, -, -, -, -, -, h5, h6⟩ := hi.2.2.2.2.2.2 gi h
  exact ⟨mt, h6, h5⟩
theorem eG_met (S : SV) (z : Int32) (gi : Nat) : ∀ i, (i ≤ gi → gw (eG S z i) gi 3 = gw S gi 3) ∧ (gw (eG S z i) gi 3 = gw S gi 3 ∨ gw (eG S z i) gi 3 = gw S gi 3 + 1) := by
  intro i
  induction i with
  | zero => exact ⟨fun _ => rfl, Or.inl rfl⟩
  | succ i ih =>
    have e : eG S z (i + 1) = setGr (eG S z i) i (gtick (gw (eG S z i) i) z) := rfl
    rw [e]
    by_cases hg : gi = i
    · subst hg
      refine ⟨fun h => absurd h (by omega), ?_⟩
      rw [gw_setGr _ _ _ (by decide)]
      unfold gtick
      rw [if_neg (by decide), if_pos rfl, ih.1 (Nat.le_refl _)]
      split
      · exact Or.inl rfl
      · exact Or.inr rfl
    · rw [gw_setGr_ne _ _ (by decide) hg]
      exact ⟨fun h => ih.1 (by omega), ih.2⟩
theorem ends_met {S : SV} {t : Nat} (hi : Inv S t) (gi : Nat) : gw (ends S) gi 3 = gw S gi 3 ∨ gw (ends S) gi 3 = gw S gi 3 + 1 := by
  obtain ⟨-, -, a3, -, -, -⟩ := eC_inv hi (cn S) (Nat.le_refl _)
  unfold ends
  rw [gw_upd_lo _ _ _ (by decide), ← a3 gi 3 (by decide)]
  exact (eG_met _ _ gi _).2
set_option maxHeartbeats 4000000 in
set_option maxRecDepth 100000 in
theorem c_X8_meets (l : Launch) (g : Gm) (M : Mem) (t : Nat) (hi : Inv (M 225) t) (ht : t ≤ 99999) (x : Int32) : Cn l yX8_meets cX8_meets 4 (some .int) 5 113 g [.ref (ad g 224), .int x] M (fun v M2 => v = some (.int (oMeets (M 225) x)) ∧ back110 M M2) := by
  refine Cn.intro (lv0 := [some (.ref (ad g 224)), some (.int x), none, none]) 2 (by decide +kernel) (Nat.le_of_ble_eq_true rfl) rfl (fun X F r => ?_)
  have k224 := kd224
  have k225 := kd225
  have hn := hi.cn_le
  have hm := hi.gn_le
  refine g_aload_n (pc := 0) F dX8_meets_0 rfl ?_
  refine g_iload_n (pc := 1) F dX8_meets_1 rfl ?_
  refine g_callV (pc := 2) (rf2 := 0) (rl2 := 0) F cs_X8_101 k224 rfl (by decide) (by rfl) (by rfl) (Nat.le_of_ble_eq_true (by rfl)) (by decide) dX8_meets_2 (c_X8_isGroup _ g _ x) (fun v M2 hz => ?_)
  obtain ⟨rfl, h2⟩ := hz
  rw [h2]
  refine g_if_ne (pc := 5) (tgt := 11) F dX8_meets_5 (by decide) (fun c5 => ?_) (fun c5 => ?_)
  · obtain ⟨gi, hgn, hgx⟩ := inG_ex hi (b2i_1 c5)
    have k228 := kd228
    have hG : inG (M 225) x := b2i_1 c5
    refine g_aload_n (pc := 11) F dX8_meets_11 rfl ?_
    refine g_getr (pc := 12) F fl_X8_7 (by assumption) rfl dX8_meets_12 ?_
    refine g_aload_n (pc := 15) F dX8_meets_15 rfl ?_
    refine g_getr (pc := 16) F fl_X8_19 (by assumption) rfl dX8_meets_16 ?_
    refine g_callS (pc := 19) (rf2 := 0) (rl2 := 0) F cs_X8_137 (by rfl) (by rfl) (Nat.le_of_ble_eq_true (by rfl)) (by decide) dX8_meets_19 (c_X8_copies _ g _ 225 228 k225 k228 (by decide)) (fun v M2 hz => ?_)
    obtain ⟨rfl, h2⟩ := hz
    rw [h2]
    refine g_iconst (pc := 22) (v := 0) F dX8_meets_22 (by decide) ?_
    refine g_istore_n (pc := 23) F dX8_meets_23 (by decide) rfl ?_
    have T : ∀ (j : Nat) (y : Int32) (w3 : Option Value), y = nI j → oMeets (M 225) x = (if gw (M 225) gi 3 < gw (endsN (M 225) j).2 gi 3 then nI j else -1000004) → G X g 4 (updr (updr M 228 (cpyF (M 225) (M 228) 110)) 225 (endsN (M 225) j).2) 70 [some (.ref (ad g 224)), some (.int x), some (.int y), w3] [] := by
      intro j y w3 hy hpost
      have v1 : (updr (updr M 228 (cpyF (M 225) (M 228) 110)) 225 (endsN (M 225) j).2) 225 (94 + 4 * gi + 3) = gw (endsN (M 225) j).2 gi 3 := by rw [updr_self]; rfl
      have v2 : (updr (updr M 228 (cpyF (M 225) (M 228) 110)) 225 (endsN (M 225) j).2) 228 (94 + 4 * gi + 3) = gw (M 225) gi 3 := by rw [updr_ne _ _ (by decide), updr_self, cpyF_lt _ _ _ (by omega)]; rfl
      refine g_aload_n (pc := 70) F dX8_meets_70 rfl ?_
      refine g_getr (pc := 71) F fl_X8_7 (by assumption) rfl dX8_meets_71 ?_
      refine g_bipush (pc := 74) (v := 94) F dX8_meets_74 (by decide) ?_
      refine g_iconst (pc := 76) (v := 4) F dX8_meets_76 (by decide) ?_
      refine g_iload_n (pc := 77) F dX8_meets_77 rfl ?_
      refine g_imul (pc := 78) F dX8_meets_78 ?_
      refine g_iadd (pc := 79) F dX8_meets_79 ?_
      refine g_iconst (pc := 80) (v := 3) F dX8_meets_80 (by decide) ?_
      refine g_iadd (pc := 81) F dX8_meets_81 ?_
      refine g_iald (pc := 82) (q := 94 + 4 * gi + 3) F k225 rfl (by rw [hgx]; exact ixG gi 3) (by omega) dX8_meets_82 ?_
      refine g_aload_n (pc := 83) F dX8_meets_83 rfl ?_
      refine g_getr (pc := 84) F fl_X8_19 (by assumption) rfl dX8_meets_84 ?_
      refine g_bipush (pc := 87) (v := 94) F dX8_meets_87 (by decide) ?_
      refine g_iconst (pc := 89) (v := 4) F dX8_meets_89 (by decide) ?_
      refine g_iload_n (pc := 90) F dX8_meets_90 rfl ?_
      refine g_imul (pc := 91) F dX8_meets_91 ?_
      refine g_iadd (pc := 92) F dX8_meets_92 ?_
      refine g_iconst (pc := 93) (v := 3) F dX8_meets_93 (by decide) ?_
      refine g_iadd (pc := 94) F dX8_meets_94 ?_
      refine g_iald (pc := 95) (q := 94 + 4 * gi + 3) F k228 rfl (by rw [hgx]; exact ixG gi 3) (by omega) dX8_meets_95 ?_
      refine g_icmp_le (pc := 96) (tgt := 103) F dX8_meets_96 (by decide) (fun c96 => ?_) (fun c96 => ?_)
      · refine g_iconst (pc := 103) (v := 0) F dX8_meets_103 (by decide) ?_
        refine g_istore_n (pc := 104) F dX8_meets_104 (by decide) rfl ?_
        refine g_aload_n (pc := 105) F dX8_meets_105 rfl ?_
        refine g_getr (pc := 106) F fl_X8_19 (by assumption) rfl dX8_meets_106 ?_
        refine g_aload_n (pc := 109) F dX8_meets_109 rfl ?_
        refine g_getr (pc := 110) F fl_X8_7 (by assumption) rfl dX8_meets_110 ?_
        refine g_callS (pc := 113) (rf2 := 0) (rl2 := 0) F cs_X8_137 (by rfl) (by rfl) (Nat.le_of_ble_eq_true (by rfl)) (by decide) dX8_meets_113 (c_X8_copies _ g _ 228 225 k228 k225 (by decide)) (fun v M2 hz => ?_)
        obtain ⟨rfl, h2⟩ := hz
        rw [h2]
        have hB : back110 M (updr (updr (updr M 228 (cpyF (M 225) (M 228) 110)) 225 (endsN (M 225) j).2) 225 (cpyF ((updr (updr M 228 (cpyF (M 225) (M 228) 110)) 225 (endsN (M 225) j).2) 228) ((updr (updr M 228 (cpyF (M 225) (M 228) 110)) 225 (endsN (M 225) j).2) 225) 110)) := by
          refine ⟨fun k hk => ?_, fun a h1 h2 => ?_⟩
          · rw [updr_self, cpyF_lt _ _ _ hk, updr_ne _ _ (show (228 : Nat) ≠ 225 by decide), updr_self, cpyF_lt _ _ _ hk]
          · rw [updr_ne _ _ h1, updr_ne _ _ h1, updr_ne _ _ h2]
        refine g_iload_n (pc := 116) F dX8_meets_116 rfl ?_
        refine g_if_eq (pc := 117) (tgt := 124) F dX8_meets_117 (by decide) (fun c117 => ?_) (fun c117 => ?_)
        · refine g_ldc (pc := 124) F wk_X8_109 dX8_meets_124 ?_
          refine g_iret (pc := 126) F r dX8_meets_126 ?_
          rw [hpost]
          rw [v1, v2] at c96
          rw [if_neg (fun e => Int32.not_lt.mpr c96 e)]
          exact ⟨rfl, hB⟩
        · exact absurd rfl c117
      · refine g_iconst (pc := 99) (v := 1) F dX8_meets_99 (by decide) ?_
        refine g_goto (pc := 100) (tgt := 104) F dX8_meets_100 (by decide) ?_
        refine g_istore_n (pc := 104) F dX8_meets_104 (by decide) rfl ?_
        refine g_aload_n (pc := 105) F dX8_meets_105 rfl ?_
        refine g_getr (pc := 106) F fl_X8_19 (by assumption) rfl dX8_meets_106 ?_
        refine g_aload_n (pc := 109) F dX8_meets_109 rfl ?_
        refine g_getr (pc := 110) F fl_X8_7 (by assumption) rfl dX8_meets_110 ?_
        refine g_callS (pc := 113) (rf2 := 0) (rl2 := 0) F cs_X8_137 (by rfl) (by rfl) (Nat.le_of_ble_eq_true (by rfl)) (by decide) dX8_meets_113 (c_X8_copies _ g _ 228 225 k228 k225 (by decide)) (fun v M2 hz => ?_)
        obtain ⟨rfl, h2⟩ := hz
        rw [h2]
        have hB : back110 M (updr (updr (updr M 228 (cpyF (M 225) (M 228) 110)) 225 (endsN (M 225) j).2) 225 (cpyF ((updr (updr M 228 (cpyF (M 225) (M 228) 110)) 225 (endsN (M 225) j).2) 228) ((updr (updr M 228 (cpyF (M 225) (M 228) 110)) 225 (endsN (M 225) j).2) 225) 110)) := by
          refine ⟨fun k hk => ?_, fun a h1 h2 => ?_⟩
          · rw [updr_self, cpyF_lt _ _ _ hk, updr_ne _ _ (show (228 : Nat) ≠ 225 by decide), updr_self, cpyF_lt _ _ _ hk]
          · rw [updr_ne _ _ h1, updr_ne _ _ h1, updr_ne _ _ h2]
        refine g_iload_n (pc := 116) F dX8_meets_116 rfl ?_
        refine g_if_eq (pc := 117) (tgt := 124) F dX8_meets_117 (by decide) (fun c117 => ?_) (fun c117 => ?_)
        · exact absurd c117 (by decide)
        · refine g_iload_n (pc := 120) F dX8_meets_120 rfl ?_
          refine g_goto (pc := 121) (tgt := 126) F dX8_meets_121 (by decide) ?_
          refine g_iret (pc := 126) F r dX8_meets_126 ?_
          rw [hpost]
          rw [v1, v2] at c96
          rw [if_pos (Int32.not_le.mp c96)]
          exact ⟨by rw [hy], hB⟩
    have D : ∀ (j : Nat) (y : Int32) (w3 : Option Value), y = nI j → gw (M 225) gi 3 < gw (endsN (M 225) j).2 gi 3 → oMeets (M 225) x = nI j → G X g 4 (updr (updr M 228 (cpyF (M 225) (M 228) 110)) 225 (endsN (M 225) j).2) 24 [some (.ref (ad g 224)), some (.int x), some (.int y), w3] [] := by
      intro j y w3 hy hlt hE
      have v1 : (updr (updr M 228 (cpyF (M 225) (M 228) 110)) 225 (endsN (M 225) j).2) 225 (94 + 4 * gi + 3) = gw (endsN (M 225) j).2 gi 3 := by rw [updr_self]; rfl
      have v2 : (updr (updr M 228 (cpyF (M 225) (M 228) 110)) 225 (endsN (M 225) j).2) 228 (94 + 4 * gi + 3) = gw (M 225) gi 3 := by rw [updr_ne _ _ (by decide), updr_self, cpyF_lt _ _ _ (by omega)]; rfl
      refine g_iload_n (pc := 24) F dX8_meets_24 rfl ?_
      refine g_sipush (pc := 25) (v := 200) F dX8_meets_25 (by decide) ?_
      refine g_icmp_ge (pc := 28) (tgt := 70) F dX8_meets_28 (by decide) (fun c28 => ?_) (fun c28 => ?_)
      · exact T j y w3 hy (by rw [hE, if_pos hlt])
      · refine g_aload_n (pc := 31) F dX8_meets_31 rfl ?_
        refine g_getr (pc := 32) F fl_X8_7 (by assumption) rfl dX8_meets_32 ?_
        refine g_bipush (pc := 35) (v := 94) F dX8_meets_35 (by decide) ?_
        refine g_iconst (pc := 37) (v := 4) F dX8_meets_37 (by decide) ?_
        refine g_iload_n (pc := 38) F dX8_meets_38 rfl ?_
        refine g_imul (pc := 39) F dX8_meets_39 ?_
        refine g_iadd (pc := 40) F dX8_meets_40 ?_
        refine g_iconst (pc := 41) (v := 3) F dX8_meets_41 (by decide) ?_
        refine g_iadd (pc := 42) F dX8_meets_42 ?_
        refine g_iald (pc := 43) (q := 94 + 4 * gi + 3) F k225 rfl (by rw [hgx]; exact ixG gi 3) (by omega) dX8_meets_43 ?_
        refine g_aload_n (pc := 44) F dX8_meets_44 rfl ?_
        refine g_getr (pc := 45) F fl_X8_19 (by assumption) rfl dX8_meets_45 ?_
        refine g_bipush (pc := 48) (v := 94) F dX8_meets_48 (by decide) ?_
        refine g_iconst (pc := 50) (v := 4) F dX8_meets_50 (by decide) ?_
        refine g_iload_n (pc := 51) F dX8_meets_51 rfl ?_
        refine g_imul (pc := 52) F dX8_meets_52 ?_
        refine g_iadd (pc := 53) F dX8_meets_53 ?_
        refine g_iconst (pc := 54) (v := 3) F dX8_meets_54 (by decide) ?_
        refine g_iadd (pc := 55) F dX8_meets_55 ?_
        refine g_iald (pc := 56) (q := 94 + 4 * gi + 3) F k228 rfl (by rw [hgx]; exact ixG gi 3) (by omega) dX8_meets_56 ?_
        refine g_icmp_ne (pc := 57) (tgt := 70) F dX8_meets_57 (by decide) (fun c57 => ?_) (fun c57 => ?_)
        · exact T j y w3 hy (by rw [hE, if_pos hlt])
        · rw [v1, v2] at c57
          rw [c57] at hlt
          exact absurd hlt (Int32.lt_irrefl)
    have L : ∀ (n j : Nat) (y : Int32) (w3 : Option Value), j + n = 200 → y = nI j → gw (endsN (M 225) j).2 gi 3 = gw (M 225) gi 3 → oMeets (M 225) x = meetW (M 225) gi n → G X g 4 (updr (updr M 228 (cpyF (M 225) (M 228) 110)) 225 (endsN (M 225) j).2) 24 [some (.ref (ad g 224)), some (.int x), some (.int y), w3] [] := by
      intro n
      induction n with
      | zero =>
        intro j y w3 hjn hy hq hE
        obtain rfl : j = 200 := by omega
        refine g_iload_n (pc := 24) F dX8_meets_24 rfl ?_
        refine g_sipush (pc := 25) (v := 200) F dX8_meets_25 (by decide) ?_
        refine g_icmp_ge (pc := 28) (tgt := 70) F dX8_meets_28 (by decide) (fun c28 => ?_) (fun c28 => ?_)
        · exact T 200 y w3 hy (by rw [hE, if_neg (by rw [hq]; exact Int32.lt_irrefl)]; rfl)
        · exact absurd (by rw [hy]; exact nI_le (a := 200) (b := 200) (by decide) (by decide)) c28
      | succ n ih =>
        intro j y w3 hjn hy hq hE
        have v1 : (updr (updr M 228 (cpyF (M 225) (M 228) 110)) 225 (endsN (M 225) j).2) 225 (94 + 4 * gi + 3) = gw (endsN (M 225) j).2 gi 3 := by rw [updr_self]; rfl
        have v2 : (updr (updr M 228 (cpyF (M 225) (M 228) 110)) 225 (endsN (M 225) j).2) 228 (94 + 4 * gi + 3) = gw (M 225) gi 3 := by rw [updr_ne _ _ (by decide), updr_self, cpyF_lt _ _ _ (by omega)]; rfl
        refine g_iload_n (pc := 24) F dX8_meets_24 rfl ?_
        refine g_sipush (pc := 25) (v := 200) F dX8_meets_25 (by decide) ?_
        refine g_icmp_ge (pc := 28) (tgt := 70) F dX8_meets_28 (by decide) (fun c28 => ?_) (fun c28 => ?_)
        · exact absurd c28 (by rw [hy]; exact nI_ge (a := j) (b := 200) (by omega) (by decide))
        · refine g_aload_n (pc := 31) F dX8_meets_31 rfl ?_
          refine g_getr (pc := 32) F fl_X8_7 (by assumption) rfl dX8_meets_32 ?_
          refine g_bipush (pc := 35) (v := 94) F dX8_meets_35 (by decide) ?_
          refine g_iconst (pc := 37) (v := 4) F dX8_meets_37 (by decide) ?_
          refine g_iload_n (pc := 38) F dX8_meets_38 rfl ?_
          refine g_imul (pc := 39) F dX8_meets_39 ?_
          refine g_iadd (pc := 40) F dX8_meets_40 ?_
          refine g_iconst (pc := 41) (v := 3) F dX8_meets_41 (by decide) ?_
          refine g_iadd (pc := 42) F dX8_meets_42 ?_
          refine g_iald (pc := 43) (q := 94 + 4 * gi + 3) F k225 rfl (by rw [hgx]; exact ixG gi 3) (by omega) dX8_meets_43 ?_
          refine g_aload_n (pc := 44) F dX8_meets_44 rfl ?_
          refine g_getr (pc := 45) F fl_X8_19 (by assumption) rfl dX8_meets_45 ?_
          refine g_bipush (pc := 48) (v := 94) F dX8_meets_48 (by decide) ?_
          refine g_iconst (pc := 50) (v := 4) F dX8_meets_50 (by decide) ?_
          refine g_iload_n (pc := 51) F dX8_meets_51 rfl ?_
          refine g_imul (pc := 52) F dX8_meets_52 ?_
          refine g_iadd (pc := 53) F dX8_meets_53 ?_
          refine g_iconst (pc := 54) (v := 3) F dX8_meets_54 (by decide) ?_
          refine g_iadd (pc := 55) F dX8_meets_55 ?_
          refine g_iald (pc := 56) (q := 94 + 4 * gi + 3) F k228 rfl (by rw [hgx]; exact ixG gi 3) (by omega) dX8_meets_56 ?_
          refine g_icmp_ne (pc := 57) (tgt := 70) F dX8_meets_57 (by decide) (fun c57 => ?_) (fun c57 => ?_)
          · exact absurd (v1.trans (hq.trans v2.symm)) c57
          · refine g_aload_n (pc := 60) F dX8_meets_60 rfl ?_
            refine g_callV (pc := 61) (rf2 := 4) (rl2 := 90) F cs_X8_77 k224 rfl (by decide) (by rfl) (by rfl) (Nat.le_of_ble_eq_true (by rfl)) (by decide) dX8_meets_61 (c_X8_ends _ g _ (t + j) (by rw [updr_self]; exact endsN_inv hi j (by omega))) (fun v M2 hz => ?_)
            obtain ⟨rfl, h2⟩ := hz
            rw [h2, updr_updr, updr_self]
            refine g_iinc (pc := 64) F dX8_meets_64 rfl rfl (by decide) rfl ?_
            refine g_goto (pc := 67) (tgt := 24) F dX8_meets_67 (by decide) ?_
            have ej : 200 - n = j + 1 := by omega
            rcases ends_met (endsN_inv hi j (by omega)) gi with he | he
            · have he' : gw (endsN (M 225) (j + 1)).2 gi 3 = gw (M 225) gi 3 := he.trans hq
              refine ih (j + 1) _ _ (by omega) (by rw [hy]; exact nI_1 j) he' ?_
              rw [hE]
              show (if gw (M 225) gi 3 < gw (endsN (M 225) (200 - n)).2 gi 3 then nI (200 - n) else meetW (M 225) gi n) = meetW (M 225) gi n
              rw [ej, he', if_neg (Int32.lt_irrefl)]
            · obtain ⟨m0, hm0, hm1⟩ := gw_met hi hgn
              have hlt : gw (M 225) gi 3 < gw (endsN (M 225) (j + 1)).2 gi 3 := by
                show gw (M 225) gi 3 < gw (ends (endsN (M 225) j).2) gi 3
                rw [he, hq, hm1, nI_1]
                exact nI_lt (by omega) (by omega)
              refine D (j + 1) _ _ (by rw [hy]; exact nI_1 j) hlt ?_
              rw [hE]
              show (if gw (M 225) gi 3 < gw (endsN (M 225) (200 - n)).2 gi 3 then nI (200 - n) else meetW (M 225) gi n) = nI (j + 1)
              rw [ej, if_pos hlt]
    refine G.mem (M' := updr (updr M 228 (cpyF (M 225) (M 228) 110)) 225 (endsN (M 225) 0).2) ?_ (L 200 0 _ _ (by omega) nI0 rfl ?_)
    · show _ = updr (updr M 228 (cpyF (M 225) (M 228) 110)) 225 (M 225)
      have e := updr_same (updr M 228 (cpyF (M 225) (M 228) 110)) 225
      rw [updr_ne M _ (show (225 : Nat) ≠ 228 by decide)] at e
      exact e.symm
    · unfold oMeets
      rw [if_pos hG, hgx, ixN_nI (by omega)]
  · skip
    refine g_ldc (pc := 8) F wk_X8_88 dX8_meets_8 ?_
    refine g_iret (pc := 10) F r dX8_meets_10 ?_
    have e : oMeets (M 225) x = -1000001 := if_neg (fun q => b2i_0 c5 q)
    rw [e]
    exact ⟨rfl, fun _ _ => rfl, fun _ _ _ => rfl⟩

