/-! the check: an order is done -/
def MO1 (M : Mem) (r : Int32 × SV) (M2 : Mem) : Prop := (r.1 < 0 ∧ M2 = M) ∨ (¬ r.1 < 0 ∧ M2 = updr M 225 r.2)
theorem MO1_of {M M2 : Mem} {pn : Nat} {r : Int32 × SV} (h1 : M 224 5 = 1) (h : MOK M pn r M2) : MO1 M r M2 := by
  rcases h with h | ⟨hn, M1, hc, he⟩
  · exact Or.inl h
  · rw [hc.2.1 h1] at he
    exact Or.inr ⟨hn, he⟩
set_option maxHeartbeats 4000000 in
set_option maxRecDepth 100000 in
theorem c_X8_calls (l : Launch) (g : Gm) (M : Mem) (t : Nat) (hi : Inv (M 225) t) (ht : t ≤ 99999) (pn : Nat) (hpn4 : pn ≤ 4) (hpn : M 224 4 = nI pn) (hr1 : M 224 5 = 1) (c : Int32) (hc : M 224 13 = c) : Cn l yX8_calls cX8_calls 1 (some .int) 7 157 g [.ref (ad g 224)] M (fun v M2 => v = some (.int (oObey (M 225) c (M 230)).1) ∧ MO1 M (oObey (M 225) c (M 230)) M2) := by
  refine Cn.intro (lv0 := [some (.ref (ad g 224))]) 0 (by decide +kernel) (Nat.le_of_ble_eq_true rfl) rfl (fun X F r => ?_)
  have k224 := kd224
  have k225 := kd225
  have k229 := kd229
  have k230 := kd230
  refine g_aload_n (pc := 0) F dX8_calls_0 rfl ?_
  refine g_geti (pc := 1) F fl_X8_157 k224 rfl dX8_calls_1 ?_
  refine g_stk (st' := [.int c]) (by rw [hc]) ?_
  by_cases n99 : c = 99
  · refine g_lookup (pc := 4) (off := 44) (tgt := 48) F dX8_calls_4 (by decide) (by exact osw_hit n99 rfl) (by decide) ?_
    refine g_aload_n (pc := 48) F dX8_calls_48 rfl ?_
    refine g_aload_n (pc := 49) F dX8_calls_49 rfl ?_
    refine g_getr (pc := 50) F fl_X8_25 (by assumption) rfl dX8_calls_50 ?_
    refine g_iconst (pc := 53) (v := 0) F dX8_calls_53 (by decide) ?_
    refine g_iald (pc := 54) (q := 0) F k230 rfl rfl (by decide) dX8_calls_54 ?_
    refine g_aload_n (pc := 55) F dX8_calls_55 rfl ?_
    refine g_getr (pc := 56) F fl_X8_25 (by assumption) rfl dX8_calls_56 ?_
    refine g_iconst (pc := 59) (v := 1) F dX8_calls_59 (by decide) ?_
    refine g_iald (pc := 60) (q := 1) F k230 rfl rfl (by decide) dX8_calls_60 ?_
    refine g_aload_n (pc := 61) F dX8_calls_61 rfl ?_
    refine g_getr (pc := 62) F fl_X8_25 (by assumption) rfl dX8_calls_62 ?_
    refine g_iconst (pc := 65) (v := 2) F dX8_calls_65 (by decide) ?_
    refine g_iald (pc := 66) (q := 2) F k230 rfl rfl (by decide) dX8_calls_66 ?_
    refine g_aload_n (pc := 67) F dX8_calls_67 rfl ?_
    refine g_getr (pc := 68) F fl_X8_25 (by assumption) rfl dX8_calls_68 ?_
    refine g_iconst (pc := 71) (v := 3) F dX8_calls_71 (by decide) ?_
    refine g_iald (pc := 72) (q := 3) F k230 rfl rfl (by decide) dX8_calls_72 ?_
    refine g_aload_n (pc := 73) F dX8_calls_73 rfl ?_
    refine g_getr (pc := 74) F fl_X8_25 (by assumption) rfl dX8_calls_74 ?_
    refine g_iconst (pc := 77) (v := 4) F dX8_calls_77 (by decide) ?_
    refine g_iald (pc := 78) (q := 4) F k230 rfl rfl (by decide) dX8_calls_78 ?_
    refine g_callV (pc := 79) (rf2 := 3) (rl2 := 68) F cs_X8_169 k224 rfl (by decide) (by rfl) (by rfl) (Nat.le_of_ble_eq_true (by rfl)) (by decide) dX8_calls_79 (c_X8_clock _ g M t hi ht pn hpn4 hpn (Or.inr hr1) (M 230 0) (M 230 1) (M 230 2) (M 230 3) (M 230 4)) (fun v M2 hz => ?_)
    obtain ⟨rfl, h2⟩ := hz
    refine g_iret (pc := 82) F r dX8_calls_82 ?_
    have e : oObey (M 225) c (M 230) = oClock (M 225) (M 230 0) (M 230 1) (M 230 2) (M 230 3) (M 230 4) := by
      unfold oObey
      rw [if_pos n99]
    rw [e]
    exact ⟨rfl, MO1_of hr1 h2⟩
  by_cases n112 : c = 112
  · refine g_lookup (pc := 4) (off := 90) (tgt := 94) F dX8_calls_4 (by decide) (by exact (lv_osw n99 rfl).trans (osw_hit n112 rfl)) (by decide) ?_
    refine g_aload_n (pc := 94) F dX8_calls_94 rfl ?_
    refine g_aload_n (pc := 95) F dX8_calls_95 rfl ?_
    refine g_getr (pc := 96) F fl_X8_25 (by assumption) rfl dX8_calls_96 ?_
    refine g_iconst (pc := 99) (v := 0) F dX8_calls_99 (by decide) ?_
    refine g_iald (pc := 100) (q := 0) F k230 rfl rfl (by decide) dX8_calls_100 ?_
    refine g_callV (pc := 101) (rf2 := 2) (rl2 := 43) F cs_X8_176 k224 rfl (by decide) (by rfl) (by rfl) (Nat.le_of_ble_eq_true (by rfl)) (by decide) dX8_calls_101 (c_X8_passenger _ g M t hi ht pn hpn4 hpn (Or.inr hr1) (M 230 0)) (fun v M2 hz => ?_)
    obtain ⟨rfl, h2⟩ := hz
    refine g_iret (pc := 104) F r dX8_calls_104 ?_
    have e : oObey (M 225) c (M 230) = oPass (M 225) (M 230 0) := by
      unfold oObey
      rw [if_neg n99, if_pos n112]
    rw [e]
    exact ⟨rfl, MO1_of hr1 h2⟩
  by_cases n116 : c = 116
  · refine g_lookup (pc := 4) (off := 79) (tgt := 83) F dX8_calls_4 (by decide) (by exact (lv_osw n99 rfl).trans ((lv_osw n112 rfl).trans (osw_hit n116 rfl))) (by decide) ?_
    refine g_aload_n (pc := 83) F dX8_calls_83 rfl ?_
    refine g_aload_n (pc := 84) F dX8_calls_84 rfl ?_
    refine g_getr (pc := 85) F fl_X8_25 (by assumption) rfl dX8_calls_85 ?_
    refine g_iconst (pc := 88) (v := 0) F dX8_calls_88 (by decide) ?_
    refine g_iald (pc := 89) (q := 0) F k230 rfl rfl (by decide) dX8_calls_89 ?_
    refine g_callV (pc := 90) (rf2 := 6) (rl2 := 136) F cs_X8_173 k224 rfl (by decide) (by rfl) (by rfl) (Nat.le_of_ble_eq_true (by rfl)) (by decide) dX8_calls_90 (c_X8_tick _ g M t hi ht pn hpn4 hpn (Or.inr hr1) (M 230 0)) (fun v M2 hz => ?_)
    obtain ⟨rfl, h2⟩ := hz
    refine g_iret (pc := 93) F r dX8_calls_93 ?_
    have e : oObey (M 225) c (M 230) = oTick (M 225) (M 230 0) := by
      unfold oObey
      rw [if_neg n99, if_neg n112, if_pos n116]
    rw [e]
    exact ⟨rfl, MO1_of hr1 h2⟩
  by_cases n119 : c = 119
  · refine g_lookup (pc := 4) (off := 101) (tgt := 105) F dX8_calls_4 (by decide) (by exact (lv_osw n99 rfl).trans ((lv_osw n112 rfl).trans ((lv_osw n116 rfl).trans (osw_hit n119 rfl)))) (by decide) ?_
    refine g_aload_n (pc := 105) F dX8_calls_105 rfl ?_
    refine g_aload_n (pc := 106) F dX8_calls_106 rfl ?_
    refine g_getr (pc := 107) F fl_X8_25 (by assumption) rfl dX8_calls_107 ?_
    refine g_iconst (pc := 110) (v := 0) F dX8_calls_110 (by decide) ?_
    refine g_iald (pc := 111) (q := 0) F k230 rfl rfl (by decide) dX8_calls_111 ?_
    refine g_callV (pc := 112) (rf2 := 3) (rl2 := 68) F cs_X8_179 k224 rfl (by decide) (by rfl) (by rfl) (Nat.le_of_ble_eq_true (by rfl)) (by decide) dX8_calls_112 (c_X8_wind _ g M t hi ht pn hpn4 hpn (Or.inr hr1) (M 230 0)) (fun v M2 hz => ?_)
    obtain ⟨rfl, h2⟩ := hz
    refine g_iret (pc := 115) F r dX8_calls_115 ?_
    have e : oObey (M 225) c (M 230) = oWind (M 225) (M 230 0) := by
      unfold oObey
      rw [if_neg n99, if_neg n112, if_neg n116, if_pos n119]
    rw [e]
    exact ⟨rfl, MO1_of hr1 h2⟩
  refine g_lookup (pc := 4) (off := 112) (tgt := 116) F dX8_calls_4 (by decide) (by exact (lv_osw n99 rfl).trans ((lv_osw n112 rfl).trans ((lv_osw n116 rfl).trans ((lv_osw n119 rfl).trans (rfl))))) (by decide) ?_
  refine g_aload_n (pc := 116) F dX8_calls_116 rfl ?_
  refine g_aload_n (pc := 117) F dX8_calls_117 rfl ?_
  refine g_getr (pc := 118) F fl_X8_25 (by assumption) rfl dX8_calls_118 ?_
  refine g_iconst (pc := 121) (v := 0) F dX8_calls_121 (by decide) ?_
  refine g_iald (pc := 122) (q := 0) F k230 rfl rfl (by decide) dX8_calls_122 ?_
  refine g_aload_n (pc := 123) F dX8_calls_123 rfl ?_
  refine g_getr (pc := 124) F fl_X8_25 (by assumption) rfl dX8_calls_124 ?_
  refine g_iconst (pc := 127) (v := 1) F dX8_calls_127 (by decide) ?_
  refine g_iald (pc := 128) (q := 1) F k230 rfl rfl (by decide) dX8_calls_128 ?_
  refine g_callV (pc := 129) (rf2 := 2) (rl2 := 44) F cs_X8_182 k224 rfl (by decide) (by rfl) (by rfl) (Nat.le_of_ble_eq_true (by rfl)) (by decide) dX8_calls_129 (c_X8_join _ g M t hi ht pn hpn4 hpn (Or.inr hr1) (M 230 0) (M 230 1)) (fun v M2 hz => ?_)
  obtain ⟨rfl, h2⟩ := hz
  refine g_iret (pc := 132) F r dX8_calls_132 ?_
  have e : oObey (M 225) c (M 230) = oJoin (M 225) (M 230 0) (M 230 1) := by
    unfold oObey
    rw [if_neg n99, if_neg n112, if_neg n116, if_neg n119]
  rw [e]
  exact ⟨rfl, MO1_of hr1 h2⟩

