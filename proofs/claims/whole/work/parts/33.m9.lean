/-! the check: laws, new clocks, new groups -/
theorem i_pos_of {y : Int32} (h0 : 0 ≤ y) (hy : ¬ y = 0) : 1 ≤ y := by
  obtain ⟨n, hn, rfl⟩ := nI_of (Int32.not_lt.mpr h0)
  rw [nI0, nI_inj hn (by decide)] at hy
  rw [nI1, nI_leI (by decide) hn]
  omega
theorem mf_rng {x y : Int32} (h : mfP x y) : 0 ≤ y ∧ y ≤ 50 := by
  rcases h with h | h
  · rw [h]
    decide
  · exact ⟨Int32.le_trans (by decide) h.2.1, h.2.2⟩
theorem mf_ne {x y : Int32} (h0 : 0 ≤ x) (hx : ¬ 0 < x) (h : mfP x y) : y = 0 := by
  rcases h with h | h
  · exact h
  · exact absurd (Int32.lt_of_lt_of_le (by decide) (i_pos_of h0 h.1)) hx
theorem mk_mf {x y : Int32} (h : 0 ≤ y ∧ y ≤ 50) (hx : 0 < x ∨ y = 0) : mfP x y := by
  by_cases hy : y = 0
  · exact Or.inl hy
  · refine Or.inr ⟨fun e => ?_, i_pos_of h.1 hy, h.2⟩
    have := hx.resolve_right hy
    rw [e] at this
    exact absurd this (by decide)
theorem law_1 {x : Int32} (h : lawP x) (h2 : ¬ x = 2) : 0 ≤ x ∧ x ≤ 1 := by
  obtain ⟨n, hn, rfl⟩ := lawP_nI h
  refine ⟨h.1, ?_⟩
  rw [nI2, nI_inj (by omega) (by decide)] at h2
  rw [nI1, nI_leI (by omega) (by decide)]
  omega
theorem law_of1 {x : Int32} (h : 0 ≤ x ∧ x ≤ 1) : lawP x := ⟨h.1, Int32.le_trans h.2 (by decide)⟩
theorem gp_of {x : Int32} (h : 1 ≤ x ∧ x ≤ 50) : gapP x := h
theorem gap_pos {x : Int32} (h : 1 ≤ x ∧ x ≤ 50) : 0 < x := Int32.lt_of_lt_of_le (by decide) h.1
set_option maxHeartbeats 4000000 in
set_option maxRecDepth 100000 in
theorem c_X8_isLaw (l : Launch) (g : Gm) (M : Mem) (la a b c d : Int32) : Cn l yX8_isLaw cX8_isLaw 6 (some .boolean) 1 22 g [.int la, .int a, .int b, .int c, .int d] M (fun v M2 => v = some (.int (cb (clockP la a b c d))) ∧ M2 = M) := by
  refine Cn.intro (lv0 := [some (.int la), some (.int a), some (.int b), some (.int c), some (.int d), none]) 1 (by decide +kernel) (Nat.le_of_ble_eq_true rfl) rfl (fun X F r => ?_)
  refine g_iload_n (pc := 0) F dX8_isLaw_0 rfl ?_
  refine g_iconst (pc := 1) (v := 2) F dX8_isLaw_1 (by decide) ?_
  refine g_icmp_ne (pc := 2) (tgt := 46) F dX8_isLaw_2 (by decide) (fun c2 => ?_) (fun c2 => ?_)
  · refine g_iload_n (pc := 46) F dX8_isLaw_46 rfl ?_
    refine g_iconst (pc := 47) (v := 0) F dX8_isLaw_47 (by decide) ?_
    refine g_iconst (pc := 48) (v := 1) F dX8_isLaw_48 (by decide) ?_
    refine g_callS (pc := 49) (rf2 := 0) (rl2 := 0) F cs_X8_80 (by rfl) (by rfl) (Nat.le_of_ble_eq_true (by rfl)) (by decide) dX8_isLaw_49 (c_X8_in _ g _ la 0 1) (fun v M2 hz => ?_)
    obtain ⟨rfl, h2⟩ := hz
    rw [h2]
    refine g_if_eq (pc := 52) (tgt := 100) F dX8_isLaw_52 (by decide) (fun c52 => ?_) (fun c52 => ?_)
    · refine g_iconst (pc := 100) (v := 0) F dX8_isLaw_100 (by decide) ?_
      refine g_istore (pc := 101) F dX8_isLaw_101 (by decide) rfl ?_
      refine g_iload (pc := 103) F dX8_isLaw_103 rfl ?_
      refine g_if_eq (pc := 105) (tgt := 129) F dX8_isLaw_105 (by decide) (fun c105 => ?_) (fun c105 => ?_)
      · refine g_iconst (pc := 129) (v := 0) F dX8_isLaw_129 (by decide) ?_
        refine g_zret (pc := 130) F (by decide) r dX8_isLaw_130 ?_
        have e : cb (clockP la a b c d) = _ := cb_f (fun q => b2i_0 c52 (law_1 q.1 c2))
        exact ⟨by rw [e], rfl⟩
      · exact absurd rfl c105
    · refine g_iload_n (pc := 55) F dX8_isLaw_55 rfl ?_
      refine g_iconst (pc := 56) (v := 1) F dX8_isLaw_56 (by decide) ?_
      refine g_bipush (pc := 57) (v := 50) F dX8_isLaw_57 (by decide) ?_
      refine g_callS (pc := 59) (rf2 := 0) (rl2 := 0) F cs_X8_80 (by rfl) (by rfl) (Nat.le_of_ble_eq_true (by rfl)) (by decide) dX8_isLaw_59 (c_X8_in _ g _ a 1 50) (fun v M2 hz => ?_)
      obtain ⟨rfl, h2⟩ := hz
      rw [h2]
      refine g_if_eq (pc := 62) (tgt := 100) F dX8_isLaw_62 (by decide) (fun c62 => ?_) (fun c62 => ?_)
      · refine g_iconst (pc := 100) (v := 0) F dX8_isLaw_100 (by decide) ?_
        refine g_istore (pc := 101) F dX8_isLaw_101 (by decide) rfl ?_
        refine g_iload (pc := 103) F dX8_isLaw_103 rfl ?_
        refine g_if_eq (pc := 105) (tgt := 129) F dX8_isLaw_105 (by decide) (fun c105 => ?_) (fun c105 => ?_)
        · refine g_iconst (pc := 129) (v := 0) F dX8_isLaw_129 (by decide) ?_
          refine g_zret (pc := 130) F (by decide) r dX8_isLaw_130 ?_
          have e : cb (clockP la a b c d) = _ := cb_f (fun q => b2i_0 c62 q.2.1)
          exact ⟨by rw [e], rfl⟩
        · exact absurd rfl c105
      · refine g_iload_n (pc := 65) F dX8_isLaw_65 rfl ?_
        refine g_iconst (pc := 66) (v := 0) F dX8_isLaw_66 (by decide) ?_
        refine g_bipush (pc := 67) (v := 50) F dX8_isLaw_67 (by decide) ?_
        refine g_callS (pc := 69) (rf2 := 0) (rl2 := 0) F cs_X8_80 (by rfl) (by rfl) (Nat.le_of_ble_eq_true (by rfl)) (by decide) dX8_isLaw_69 (c_X8_in _ g _ b 0 50) (fun v M2 hz => ?_)
        obtain ⟨rfl, h2⟩ := hz
        rw [h2]
        refine g_if_eq (pc := 72) (tgt := 100) F dX8_isLaw_72 (by decide) (fun c72 => ?_) (fun c72 => ?_)
        · refine g_iconst (pc := 100) (v := 0) F dX8_isLaw_100 (by decide) ?_
          refine g_istore (pc := 101) F dX8_isLaw_101 (by decide) rfl ?_
          refine g_iload (pc := 103) F dX8_isLaw_103 rfl ?_
          refine g_if_eq (pc := 105) (tgt := 129) F dX8_isLaw_105 (by decide) (fun c105 => ?_) (fun c105 => ?_)
          · refine g_iconst (pc := 129) (v := 0) F dX8_isLaw_129 (by decide) ?_
            refine g_zret (pc := 130) F (by decide) r dX8_isLaw_130 ?_
            have e : cb (clockP la a b c d) = _ := cb_f (fun q => b2i_0 c72 (mf_rng (q.2.2.2 c2).1))
            exact ⟨by rw [e], rfl⟩
          · exact absurd rfl c105
        · refine g_iload_n (pc := 75) F dX8_isLaw_75 rfl ?_
          refine g_iconst (pc := 76) (v := 0) F dX8_isLaw_76 (by decide) ?_
          refine g_bipush (pc := 77) (v := 50) F dX8_isLaw_77 (by decide) ?_
          refine g_callS (pc := 79) (rf2 := 0) (rl2 := 0) F cs_X8_80 (by rfl) (by rfl) (Nat.le_of_ble_eq_true (by rfl)) (by decide) dX8_isLaw_79 (c_X8_in _ g _ c 0 50) (fun v M2 hz => ?_)
          obtain ⟨rfl, h2⟩ := hz
          rw [h2]
          refine g_if_eq (pc := 82) (tgt := 100) F dX8_isLaw_82 (by decide) (fun c82 => ?_) (fun c82 => ?_)
          · refine g_iconst (pc := 100) (v := 0) F dX8_isLaw_100 (by decide) ?_
            refine g_istore (pc := 101) F dX8_isLaw_101 (by decide) rfl ?_
            refine g_iload (pc := 103) F dX8_isLaw_103 rfl ?_
            refine g_if_eq (pc := 105) (tgt := 129) F dX8_isLaw_105 (by decide) (fun c105 => ?_) (fun c105 => ?_)
            · refine g_iconst (pc := 129) (v := 0) F dX8_isLaw_129 (by decide) ?_
              refine g_zret (pc := 130) F (by decide) r dX8_isLaw_130 ?_
              have e : cb (clockP la a b c d) = _ := cb_f (fun q => b2i_0 c82 (mf_rng (q.2.2.2 c2).2.1))
              exact ⟨by rw [e], rfl⟩
            · exact absurd rfl c105
          · refine g_iload (pc := 85) F dX8_isLaw_85 rfl ?_
            refine g_iconst (pc := 87) (v := 0) F dX8_isLaw_87 (by decide) ?_
            refine g_bipush (pc := 88) (v := 50) F dX8_isLaw_88 (by decide) ?_
            refine g_callS (pc := 90) (rf2 := 0) (rl2 := 0) F cs_X8_80 (by rfl) (by rfl) (Nat.le_of_ble_eq_true (by rfl)) (by decide) dX8_isLaw_90 (c_X8_in _ g _ d 0 50) (fun v M2 hz => ?_)
            obtain ⟨rfl, h2⟩ := hz
            rw [h2]
            refine g_if_eq (pc := 93) (tgt := 100) F dX8_isLaw_93 (by decide) (fun c93 => ?_) (fun c93 => ?_)
            · refine g_iconst (pc := 100) (v := 0) F dX8_isLaw_100 (by decide) ?_
              refine g_istore (pc := 101) F dX8_isLaw_101 (by decide) rfl ?_
              refine g_iload (pc := 103) F dX8_isLaw_103 rfl ?_
              refine g_if_eq (pc := 105) (tgt := 129) F dX8_isLaw_105 (by decide) (fun c105 => ?_) (fun c105 => ?_)
              · refine g_iconst (pc := 129) (v := 0) F dX8_isLaw_129 (by decide) ?_
                refine g_zret (pc := 130) F (by decide) r dX8_isLaw_130 ?_
                have e : cb (clockP la a b c d) = _ := cb_f (fun q => b2i_0 c93 (mf_rng (q.2.2.2 c2).2.2))
                exact ⟨by rw [e], rfl⟩
              · exact absurd rfl c105
            · refine g_iconst (pc := 96) (v := 1) F dX8_isLaw_96 (by decide) ?_
              refine g_goto (pc := 97) (tgt := 101) F dX8_isLaw_97 (by decide) ?_
              refine g_istore (pc := 101) F dX8_isLaw_101 (by decide) rfl ?_
              refine g_iload (pc := 103) F dX8_isLaw_103 rfl ?_
              refine g_if_eq (pc := 105) (tgt := 129) F dX8_isLaw_105 (by decide) (fun c105 => ?_) (fun c105 => ?_)
              · exact absurd c105 (by decide)
              · refine g_iload_n (pc := 108) F dX8_isLaw_108 rfl ?_
                refine g_if_gt (pc := 109) (tgt := 116) F dX8_isLaw_109 (by decide) (fun c109 => ?_) (fun c109 => ?_)
                · refine g_iload_n (pc := 116) F dX8_isLaw_116 rfl ?_
                  refine g_if_gt (pc := 117) (tgt := 125) F dX8_isLaw_117 (by decide) (fun c117 => ?_) (fun c117 => ?_)
                  · refine g_iconst (pc := 125) (v := 1) F dX8_isLaw_125 (by decide) ?_
                    refine g_goto (pc := 126) (tgt := 130) F dX8_isLaw_126 (by decide) ?_
                    refine g_zret (pc := 130) F (by decide) r dX8_isLaw_130 ?_
                    have e : cb (clockP la a b c d) = _ := cb_t ⟨law_of1 (b2i_1 c52), gp_of (b2i_1 c62), fun e => absurd e c2, fun _ => ⟨mk_mf (b2i_1 c72) (Or.inl (gap_pos (b2i_1 c62))), mk_mf (b2i_1 c82) (Or.inl c109), mk_mf (b2i_1 c93) (Or.inl c117)⟩⟩
                    exact ⟨by rw [e], rfl⟩
                  · refine g_iload (pc := 120) F dX8_isLaw_120 rfl ?_
                    refine g_if_ne (pc := 122) (tgt := 129) F dX8_isLaw_122 (by decide) (fun c122 => ?_) (fun c122 => ?_)
                    · refine g_iconst (pc := 129) (v := 0) F dX8_isLaw_129 (by decide) ?_
                      refine g_zret (pc := 130) F (by decide) r dX8_isLaw_130 ?_
                      have e : cb (clockP la a b c d) = _ := cb_f (fun q => c122 (mf_ne (b2i_1 c82).1 c117 (q.2.2.2 c2).2.2))
                      exact ⟨by rw [e], rfl⟩
                    · refine g_iconst (pc := 125) (v := 1) F dX8_isLaw_125 (by decide) ?_
                      refine g_goto (pc := 126) (tgt := 130) F dX8_isLaw_126 (by decide) ?_
                      refine g_zret (pc := 130) F (by decide) r dX8_isLaw_130 ?_
                      have e : cb (clockP la a b c d) = _ := cb_t ⟨law_of1 (b2i_1 c52), gp_of (b2i_1 c62), fun e => absurd e c2, fun _ => ⟨mk_mf (b2i_1 c72) (Or.inl (gap_pos (b2i_1 c62))), mk_mf (b2i_1 c82) (Or.inl c109), mk_mf (b2i_1 c93) (Or.inr c122)⟩⟩
                      exact ⟨by rw [e], rfl⟩
                · refine g_iload_n (pc := 112) F dX8_isLaw_112 rfl ?_
                  refine g_if_ne (pc := 113) (tgt := 129) F dX8_isLaw_113 (by decide) (fun c113 => ?_) (fun c113 => ?_)
                  · refine g_iconst (pc := 129) (v := 0) F dX8_isLaw_129 (by decide) ?_
                    refine g_zret (pc := 130) F (by decide) r dX8_isLaw_130 ?_
                    have e : cb (clockP la a b c d) = _ := cb_f (fun q => c113 (mf_ne (b2i_1 c72).1 c109 (q.2.2.2 c2).2.1))
                    exact ⟨by rw [e], rfl⟩
                  · refine g_iload_n (pc := 116) F dX8_isLaw_116 rfl ?_
                    refine g_if_gt (pc := 117) (tgt := 125) F dX8_isLaw_117 (by decide) (fun c117 => ?_) (fun c117 => ?_)
                    · refine g_iconst (pc := 125) (v := 1) F dX8_isLaw_125 (by decide) ?_
                      refine g_goto (pc := 126) (tgt := 130) F dX8_isLaw_126 (by decide) ?_
                      refine g_zret (pc := 130) F (by decide) r dX8_isLaw_130 ?_
                      have e : cb (clockP la a b c d) = _ := cb_t ⟨law_of1 (b2i_1 c52), gp_of (b2i_1 c62), fun e => absurd e c2, fun _ => ⟨mk_mf (b2i_1 c72) (Or.inl (gap_pos (b2i_1 c62))), mk_mf (b2i_1 c82) (Or.inr c113), mk_mf (b2i_1 c93) (Or.inl c117)⟩⟩
                      exact ⟨by rw [e], rfl⟩
                    · refine g_iload (pc := 120) F dX8_isLaw_120 rfl ?_
                      refine g_if_ne (pc := 122) (tgt := 129) F dX8_isLaw_122 (by decide) (fun c122 => ?_) (fun c122 => ?_)
                      · refine g_iconst (pc := 129) (v := 0) F dX8_isLaw_129 (by decide) ?_
                        refine g_zret (pc := 130) F (by decide) r dX8_isLaw_130 ?_
                        have e : cb (clockP la a b c d) = _ := cb_f (fun q => c122 (mf_ne (b2i_1 c82).1 c117 (q.2.2.2 c2).2.2))
                        exact ⟨by rw [e], rfl⟩
                      · refine g_iconst (pc := 125) (v := 1) F dX8_isLaw_125 (by decide) ?_
                        refine g_goto (pc := 126) (tgt := 130) F dX8_isLaw_126 (by decide) ?_
                        refine g_zret (pc := 130) F (by decide) r dX8_isLaw_130 ?_
                        have e : cb (clockP la a b c d) = _ := cb_t ⟨law_of1 (b2i_1 c52), gp_of (b2i_1 c62), fun e => absurd e c2, fun _ => ⟨mk_mf (b2i_1 c72) (Or.inl (gap_pos (b2i_1 c62))), mk_mf (b2i_1 c82) (Or.inr c113), mk_mf (b2i_1 c93) (Or.inr c122)⟩⟩
                        exact ⟨by rw [e], rfl⟩
  · refine g_iload_n (pc := 5) F dX8_isLaw_5 rfl ?_
    refine g_iconst (pc := 6) (v := 1) F dX8_isLaw_6 (by decide) ?_
    refine g_bipush (pc := 7) (v := 50) F dX8_isLaw_7 (by decide) ?_
    refine g_callS (pc := 9) (rf2 := 0) (rl2 := 0) F cs_X8_80 (by rfl) (by rfl) (Nat.le_of_ble_eq_true (by rfl)) (by decide) dX8_isLaw_9 (c_X8_in _ g _ a 1 50) (fun v M2 hz => ?_)
    obtain ⟨rfl, h2⟩ := hz
    rw [h2]
    refine g_if_eq (pc := 12) (tgt := 44) F dX8_isLaw_12 (by decide) (fun c12 => ?_) (fun c12 => ?_)
    · refine g_iconst (pc := 44) (v := 0) F dX8_isLaw_44 (by decide) ?_
      refine g_zret (pc := 45) F (by decide) r dX8_isLaw_45 ?_
      have e : cb (clockP la a b c d) = _ := cb_f (fun q => b2i_0 c12 q.2.1)
      exact ⟨by rw [e], rfl⟩
    · refine g_iload_n (pc := 15) F dX8_isLaw_15 rfl ?_
      refine g_iconst (pc := 16) (v := 1) F dX8_isLaw_16 (by decide) ?_
      refine g_bipush (pc := 17) (v := 50) F dX8_isLaw_17 (by decide) ?_
      refine g_callS (pc := 19) (rf2 := 0) (rl2 := 0) F cs_X8_80 (by rfl) (by rfl) (Nat.le_of_ble_eq_true (by rfl)) (by decide) dX8_isLaw_19 (c_X8_in _ g _ b 1 50) (fun v M2 hz => ?_)
      obtain ⟨rfl, h2⟩ := hz
      rw [h2]
      refine g_if_eq (pc := 22) (tgt := 44) F dX8_isLaw_22 (by decide) (fun c22 => ?_) (fun c22 => ?_)
      · refine g_iconst (pc := 44) (v := 0) F dX8_isLaw_44 (by decide) ?_
        refine g_zret (pc := 45) F (by decide) r dX8_isLaw_45 ?_
        have e : cb (clockP la a b c d) = _ := cb_f (fun q => b2i_0 c22 (q.2.2.1 c2).1)
        exact ⟨by rw [e], rfl⟩
      · refine g_iload_n (pc := 25) F dX8_isLaw_25 rfl ?_
        refine g_iconst (pc := 26) (v := 1) F dX8_isLaw_26 (by decide) ?_
        refine g_bipush (pc := 27) (v := 50) F dX8_isLaw_27 (by decide) ?_
        refine g_callS (pc := 29) (rf2 := 0) (rl2 := 0) F cs_X8_80 (by rfl) (by rfl) (Nat.le_of_ble_eq_true (by rfl)) (by decide) dX8_isLaw_29 (c_X8_in _ g _ c 1 50) (fun v M2 hz => ?_)
        obtain ⟨rfl, h2⟩ := hz
        rw [h2]
        refine g_if_eq (pc := 32) (tgt := 44) F dX8_isLaw_32 (by decide) (fun c32 => ?_) (fun c32 => ?_)
        · refine g_iconst (pc := 44) (v := 0) F dX8_isLaw_44 (by decide) ?_
          refine g_zret (pc := 45) F (by decide) r dX8_isLaw_45 ?_
          have e : cb (clockP la a b c d) = _ := cb_f (fun q => b2i_0 c32 (q.2.2.1 c2).2.1)
          exact ⟨by rw [e], rfl⟩
        · refine g_iload (pc := 35) F dX8_isLaw_35 rfl ?_
          refine g_if_ne (pc := 37) (tgt := 44) F dX8_isLaw_37 (by decide) (fun c37 => ?_) (fun c37 => ?_)
          · refine g_iconst (pc := 44) (v := 0) F dX8_isLaw_44 (by decide) ?_
            refine g_zret (pc := 45) F (by decide) r dX8_isLaw_45 ?_
            have e : cb (clockP la a b c d) = _ := cb_f (fun q => c37 (q.2.2.1 c2).2.2)
            exact ⟨by rw [e], rfl⟩
          · refine g_iconst (pc := 40) (v := 1) F dX8_isLaw_40 (by decide) ?_
            refine g_goto (pc := 41) (tgt := 45) F dX8_isLaw_41 (by decide) ?_
            refine g_zret (pc := 45) F (by decide) r dX8_isLaw_45 ?_
            have e : cb (clockP la a b c d) = _ := cb_t ⟨⟨by rw [c2]; decide, by rw [c2]; decide⟩, gp_of (b2i_1 c12), fun _ => ⟨gp_of (b2i_1 c22), gp_of (b2i_1 c32), c37⟩, fun e => absurd c2 e⟩
            exact ⟨by rw [e], rfl⟩

def zf (w : Nat → Int32) (n : Nat) : Nat → Int32 := fun j => if j < n then 0 else w j
theorem zf_s (w : Nat → Int32) (n : Nat) : upd (zf w n) n 0 = zf w (n + 1) := by
  funext j
  unfold zf
  rw [upd_get]
  by_cases h : j = n
  · rw [if_pos h, if_pos (by omega)]
  · rw [if_neg h]
    by_cases h2 : j < n
    · rw [if_pos h2, if_pos (by omega)]
    · rw [if_neg h2, if_neg (by omega)]
theorem w0_zf (w : Nat → Int32) (la a b c d : Int32) : ∀ j, j < 15 → upd (upd (upd (upd (upd (zf w 15) 0 la) 1 a) 2 b) 3 c) 4 d j = w0 la a b c d 0 j := by
  intro j hj
  unfold w0 zf
  simp only [upd_get]
  by_cases h4 : j = 4
  · subst h4; rfl
  · by_cases h3 : j = 3
    · subst h3; rfl
    · by_cases h2 : j = 2
      · subst h2; rfl
      · by_cases h1 : j = 1
        · subst h1; rfl
        · by_cases h0 : j = 0
          · subst h0; rfl
          · rw [if_neg h4, if_neg h3, if_neg h2, if_neg h1, if_neg h0, if_pos hj, if_neg h0, if_neg h1, if_neg h2, if_neg h3, if_neg h4, ite_self]
set_option maxHeartbeats 4000000 in
set_option maxRecDepth 100000 in
theorem c_X8_clock (l : Launch) (g : Gm) (M : Mem) (t : Nat) (hi : Inv (M 225) t) (ht : t ≤ 99999) (pn : Nat) (hpn4 : pn ≤ 4) (hpn : M 224 4 = nI pn) (hr : M 224 5 = 0 ∨ M 224 5 = 1) (la a b c d : Int32) : Cn l yX8_clock cX8_clock 8 (some .int) 3 68 g [.ref (ad g 224), .int la, .int a, .int b, .int c, .int d] M (fun v M2 => v = some (.int (oClock (M 225) la a b c d).1) ∧ MOK M pn (oClock (M 225) la a b c d) M2) := by
  refine Cn.intro (lv0 := [some (.ref (ad g 224)), some (.int la), some (.int a), some (.int b), some (.int c), some (.int d), none, none]) 2 (by decide +kernel) (Nat.le_of_ble_eq_true rfl) rfl (fun X F r => ?_)
  have k224 := kd224
  have k225 := kd225
  have hn := hi.cn_le
  have hm := hi.gn_le
  refine g_iload_n (pc := 0) F dX8_clock_0 rfl ?_
  refine g_iload_n (pc := 1) F dX8_clock_1 rfl ?_
  refine g_iload_n (pc := 2) F dX8_clock_2 rfl ?_
  refine g_iload (pc := 3) F dX8_clock_3 rfl ?_
  refine g_iload (pc := 5) F dX8_clock_5 rfl ?_
  refine g_callS (pc := 7) (rf2 := 1) (rl2 := 22) F cs_X8_84 (by rfl) (by rfl) (Nat.le_of_ble_eq_true (by rfl)) (by decide) dX8_clock_7 (c_X8_isLaw _ g _ la a b c d) (fun v M2 hz => ?_)
  obtain ⟨rfl, h2⟩ := hz
  rw [h2]
  refine g_if_ne (pc := 10) (tgt := 16) F dX8_clock_10 (by decide) (fun c10 => ?_) (fun c10 => ?_)
  · have hcP : clockP la a b c d := cb_1 c10
    refine g_aload_n (pc := 16) F dX8_clock_16 rfl ?_
    refine g_getr (pc := 17) F fl_X8_7 (by assumption) rfl dX8_clock_17 ?_
    refine g_iconst (pc := 20) (v := 0) F dX8_clock_20 (by decide) ?_
    refine g_iald (pc := 21) (q := 0) F k225 rfl (by decide) (by decide) dX8_clock_21 ?_
    refine g_istore (pc := 22) F dX8_clock_22 (by decide) rfl ?_
    refine g_iload (pc := 24) F dX8_clock_24 rfl ?_
    refine g_bipush (pc := 26) (v := 6) F dX8_clock_26 (by decide) ?_
    refine g_icmp_ne (pc := 28) (tgt := 34) F dX8_clock_28 (by decide) (fun c28 => ?_) (fun c28 => ?_)
    · have h6 : ¬ M 225 0 = 6 := c28
      obtain ⟨k, hkc⟩ : ∃ k, k = cn (M 225) := ⟨_, rfl⟩
      have hks : M 225 0 = nI k := by rw [hkc]; exact hn.2
      have hk6 : k < 6 := by
        have : ¬ k = 6 := fun e => h6 (by rw [hks, e]; rfl)
        omega
      obtain ⟨l', a', b', c', d', hLI⟩ := clockP_LI (p := 0) hcP
      obtain ⟨xx, hxx, hx3⟩ := hi.2.2.2.2.1
      refine g_aload_n (pc := 34) F dX8_clock_34 rfl ?_
      refine g_callV (pc := 35) (rf2 := 0) (rl2 := 0) F cs_X8_90 k224 rfl (by decide) (by rfl) (by rfl) (Nat.le_of_ble_eq_true (by rfl)) (by decide) dX8_clock_35 (c_X8_changes _ g _ pn hpn4 hpn hr) (fun v M1 hz => ?_)
      obtain ⟨rfl, hch⟩ := hz
      have e225 := hch.s
      refine g_iconst (pc := 38) (v := 0) F dX8_clock_38 (by decide) ?_
      refine g_istore (pc := 39) F dX8_clock_39 (by decide) rfl ?_
      have L : ∀ (n j : Nat) (y : Int32), j + n = 15 → y = nI j → G X g 8 (updr M1 225 (setC (M 225) k (zf (cw (M 225) k) j))) 41 [some (.ref (ad g 224)), some (.int la), some (.int a), some (.int b), some (.int c), some (.int d), some (.int (nI k)), some (.int y)] [] := by
        intro n
        induction n with
        | zero =>
          intro j y hjn hy
          obtain rfl : j = 15 := by omega
          refine g_iload (pc := 41) F dX8_clock_41 rfl ?_
          refine g_bipush (pc := 43) (v := 15) F dX8_clock_43 (by decide) ?_
          refine g_icmp_ge (pc := 45) (tgt := 63) F dX8_clock_45 (by decide) (fun c45 => ?_) (fun c45 => ?_)
          · refine g_aload_n (pc := 63) F dX8_clock_63 rfl ?_
            refine g_iload (pc := 64) F dX8_clock_64 rfl ?_
            refine g_iconst (pc := 66) (v := 0) F dX8_clock_66 (by decide) ?_
            refine g_iload_n (pc := 67) F dX8_clock_67 rfl ?_
            refine g_stk (st' := [.int la, .int (nI 0), .int (nI k), .ref (ad g 224)]) rfl ?_
            refine g_callV (pc := 68) (rf2 := 0) (rl2 := 0) F cs_X8_47 k224 rfl (by decide) (by rfl) (by rfl) (Nat.le_of_ble_eq_true (by rfl)) (by decide) dX8_clock_68 (c_X8_sets _ g _ k hk6 0 (by decide) la) (fun v M2 hz => ?_)
            obtain ⟨rfl, h2⟩ := hz
            rw [h2, memC (q := 0) _ _ _ _ (by decide)]
            refine g_aload_n (pc := 71) F dX8_clock_71 rfl ?_
            refine g_iload (pc := 72) F dX8_clock_72 rfl ?_
            refine g_iconst (pc := 74) (v := 1) F dX8_clock_74 (by decide) ?_
            refine g_iload_n (pc := 75) F dX8_clock_75 rfl ?_
            refine g_stk (st' := [.int a, .int (nI 1), .int (nI k), .ref (ad g 224)]) rfl ?_
            refine g_callV (pc := 76) (rf2 := 0) (rl2 := 0) F cs_X8_47 k224 rfl (by decide) (by rfl) (by rfl) (Nat.le_of_ble_eq_true (by rfl)) (by decide) dX8_clock_76 (c_X8_sets _ g _ k hk6 1 (by decide) a) (fun v M2 hz => ?_)
            obtain ⟨rfl, h2⟩ := hz
            rw [h2, memC (q := 1) _ _ _ _ (by decide)]
            refine g_aload_n (pc := 79) F dX8_clock_79 rfl ?_
            refine g_iload (pc := 80) F dX8_clock_80 rfl ?_
            refine g_iconst (pc := 82) (v := 2) F dX8_clock_82 (by decide) ?_
            refine g_iload_n (pc := 83) F dX8_clock_83 rfl ?_
            refine g_stk (st' := [.int b, .int (nI 2), .int (nI k), .ref (ad g 224)]) rfl ?_
            refine g_callV (pc := 84) (rf2 := 0) (rl2 := 0) F cs_X8_47 k224 rfl (by decide) (by rfl) (by rfl) (Nat.le_of_ble_eq_true (by rfl)) (by decide) dX8_clock_84 (c_X8_sets _ g _ k hk6 2 (by decide) b) (fun v M2 hz => ?_)
            obtain ⟨rfl, h2⟩ := hz
            rw [h2, memC (q := 2) _ _ _ _ (by decide)]
            refine g_aload_n (pc := 87) F dX8_clock_87 rfl ?_
            refine g_iload (pc := 88) F dX8_clock_88 rfl ?_
            refine g_iconst (pc := 90) (v := 3) F dX8_clock_90 (by decide) ?_
            refine g_iload (pc := 91) F dX8_clock_91 rfl ?_
            refine g_stk (st' := [.int c, .int (nI 3), .int (nI k), .ref (ad g 224)]) rfl ?_
            refine g_callV (pc := 93) (rf2 := 0) (rl2 := 0) F cs_X8_47 k224 rfl (by decide) (by rfl) (by rfl) (Nat.le_of_ble_eq_true (by rfl)) (by decide) dX8_clock_93 (c_X8_sets _ g _ k hk6 3 (by decide) c) (fun v M2 hz => ?_)
            obtain ⟨rfl, h2⟩ := hz
            rw [h2, memC (q := 3) _ _ _ _ (by decide)]
            refine g_aload_n (pc := 96) F dX8_clock_96 rfl ?_
            refine g_iload (pc := 97) F dX8_clock_97 rfl ?_
            refine g_iconst (pc := 99) (v := 4) F dX8_clock_99 (by decide) ?_
            refine g_iload (pc := 100) F dX8_clock_100 rfl ?_
            refine g_stk (st' := [.int d, .int (nI 4), .int (nI k), .ref (ad g 224)]) rfl ?_
            refine g_callV (pc := 102) (rf2 := 0) (rl2 := 0) F cs_X8_47 k224 rfl (by decide) (by rfl) (by rfl) (Nat.le_of_ble_eq_true (by rfl)) (by decide) dX8_clock_102 (c_X8_sets _ g _ k hk6 4 (by decide) d) (fun v M2 hz => ?_)
            obtain ⟨rfl, h2⟩ := hz
            rw [h2, memC (q := 4) _ _ _ _ (by decide)]
            refine G.mem (M' := updr M1 225 (setC (M 225) k (w0 la a b c d 0))) (by rw [setC_ext (M 225) k (w0_zf _ la a b c d)]) ?_
            refine g_aload_n (pc := 105) F dX8_clock_105 rfl ?_
            refine g_getr (pc := 106) F fl_X8_7 (by assumption) rfl dX8_clock_106 ?_
            refine g_iconst (pc := 109) (v := 0) F dX8_clock_109 (by decide) ?_
            refine g_dup2 (pc := 110) F dX8_clock_110 rfl rfl ?_
            refine g_iald (pc := 111) (q := 0) F k225 rfl (by decide) (by decide) dX8_clock_111 ?_
            refine g_iconst (pc := 112) (v := 1) F dX8_clock_112 (by decide) ?_
            refine g_iadd (pc := 113) F dX8_clock_113 ?_
            refine g_iast (pc := 114) (q := 0) F k225 rfl (by decide) (by decide) dX8_clock_114 ?_
            rw [memG, show updr M1 225 (setC (M 225) k (w0 la a b c d 0)) (224 + 1) 0 = M 225 0 by rw [updr_self, setC_lo _ _ _ (by decide)]]
            refine g_aload_n (pc := 115) F dX8_clock_115 rfl ?_
            refine g_iload (pc := 116) F dX8_clock_116 rfl ?_
            refine g_iconst (pc := 118) (v := 0) F dX8_clock_118 (by decide) ?_
            refine g_stk (st' := [.int (nI 0), .int (nI k), .ref (ad g 224)]) rfl ?_
            refine g_callV (pc := 119) (rf2 := 2) (rl2 := 45) F cs_X8_57 k224 rfl (by decide) (by rfl) (by rfl) (Nat.le_of_ble_eq_true (by rfl)) (by decide) dX8_clock_119 (c_X8_begins _ g _ k hk6 l' a' b' c' d' xx 0 (by rw [updr_self, cw_upd_lo _ _ _ (by decide)]; exact LI_congr hLI (fun j hj => cw_setC _ _ _ (by omega))) hxx (by rw [updr_self, upd_ne _ _ (by decide), setC_lo _ _ _ (by decide)]; exact hx3) (by decide)) (fun v M2 hz => ?_)
            obtain ⟨rfl, h2⟩ := hz
            rw [h2, updr_updr, updr_self]
            refine g_iload (pc := 122) F dX8_clock_122 rfl ?_
            refine g_iret (pc := 124) F r dX8_clock_124 ?_
            have e : oClock (M 225) la a b c d = (M 225 0, addC (M 225) la a b c d) := by
              unfold oClock
              rw [if_pos hcP, if_neg h6]
            rw [e]
            refine ⟨by rw [hks], Or.inr ⟨?_, M1, hch, ?_⟩⟩
            · show ¬ M 225 0 < 0
              rw [hks]
              exact nI_nneg (by omega)
            · show _ = updr M1 225 (addC (M 225) la a b c d)
              unfold addC
              rw [← hkc]
              rfl
          · exact absurd (by rw [hy]; exact nI_le (a := 15) (b := 15) (by decide) (by decide)) c45
        | succ n ih =>
          intro j y hjn hy
          refine g_iload (pc := 41) F dX8_clock_41 rfl ?_
          refine g_bipush (pc := 43) (v := 15) F dX8_clock_43 (by decide) ?_
          refine g_icmp_ge (pc := 45) (tgt := 63) F dX8_clock_45 (by decide) (fun c45 => ?_) (fun c45 => ?_)
          · exact absurd c45 (by rw [hy]; exact nI_ge (a := j) (b := 15) (by omega) (by decide))
          · refine g_aload_n (pc := 48) F dX8_clock_48 rfl ?_
            refine g_iload (pc := 49) F dX8_clock_49 rfl ?_
            refine g_iload (pc := 51) F dX8_clock_51 rfl ?_
            refine g_iconst (pc := 53) (v := 0) F dX8_clock_53 (by decide) ?_
            refine g_stk (st' := [.int 0, .int (nI j), .int (nI k), .ref (ad g 224)]) (by rw [hy] <;> rfl) ?_
            refine g_callV (pc := 54) (rf2 := 0) (rl2 := 0) F cs_X8_47 k224 rfl (by decide) (by rfl) (by rfl) (Nat.le_of_ble_eq_true (by rfl)) (by decide) dX8_clock_54 (c_X8_sets _ g _ k hk6 j (by omega) 0) (fun v M2 hz => ?_)
            obtain ⟨rfl, h2⟩ := hz
            rw [h2, memC (q := j) _ _ _ _ (by omega), zf_s]
            refine g_iinc (pc := 57) F dX8_clock_57 rfl rfl (by decide) rfl ?_
            refine g_goto (pc := 60) (tgt := 41) F dX8_clock_60 (by decide) ?_
            exact G.sub [some (.ref (ad g 224)), some (.int la), some (.int a), some (.int b), some (.int c), some (.int d), some (.int (nI k)), some (.int (y + Int32.ofInt 1))] ⟨rfl, rfl, rfl, rfl, rfl, rfl, rfl, rfl, trivial⟩ (ih (j + 1) _ (by omega) (by rw [hy]; exact nI_1 j))
      rw [hks]
      refine G.mem (M' := updr M1 225 (setC (M 225) k (zf (cw (M 225) k) 0))) (by rw [show zf (cw (M 225) k) 0 = cw (M 225) k from funext fun j => if_neg (Nat.not_lt_zero j), setC_cw, ← e225, updr_same]) ?_
      exact L 15 0 _ (by omega) nI0
    · have h6 : M 225 0 = 6 := c28
      refine g_ldc (pc := 31) F wk_X8_89 dX8_clock_31 ?_
      refine g_iret (pc := 33) F r dX8_clock_33 ?_
      have e : oClock (M 225) la a b c d = (-1000003, M 225) := by
        unfold oClock
        rw [if_pos hcP, if_pos h6]
      rw [e]
      exact ⟨rfl, Or.inl ⟨negc (by decide), rfl⟩⟩
  · have hno : ¬ clockP la a b c d := cb_0 c10
    refine g_ldc (pc := 13) F wk_X8_88 dX8_clock_13 ?_
    refine g_iret (pc := 15) F r dX8_clock_15 ?_
    have e : oClock (M 225) la a b c d = (-1000001, M 225) := if_neg hno
    rw [e]
    exact ⟨rfl, Or.inl ⟨negc (by decide), rfl⟩⟩

