/-! the check: clockOf, groupOf, count, next -/
def AM (M : Mem) (pn tn : Nat) : AS := (M 225, pastF M, pn, M 229, tn)
theorem in63 : ∀ i, i < 6 → isIn 63 i := by decide +kernel
theorem sumW_M {S : SV} {q q' : Nat} (e : ∀ w, wv w q = w q') : ∀ i, i ≤ 6 → sumW S 63 q i = sumM S q' i := by
  intro i
  induction i with
  | zero => intro _; rfl
  | succ i ih =>
    intro h
    show (if isIn 63 i then sumW S 63 q i + wv (cw S i) q else sumW S 63 q i) = sumM S q' i + cw S i q'
    rw [if_pos (in63 i (by omega)), ih (by omega), e]
set_option maxHeartbeats 4000000 in
set_option maxRecDepth 100000 in
theorem c_X8_count (l : Launch) (g : Gm) (M : Mem) (t : Nat) (hi : Inv (M 225) t) (pn tn : Nat) (hpn : M 224 4 = nI pn) (htn : M 224 7 = nI tn) (w : Int32) : Cn l yX8_count cX8_count 2 (some .int) 3 65 g [.ref (ad g 224), .int w] M (fun v M2 => v = some (.int (oCount (AM M pn tn) w)) ∧ M2 = M) := by
  refine Cn.intro (lv0 := [some (.ref (ad g 224)), some (.int w)]) 0 (by decide +kernel) (Nat.le_of_ble_eq_true rfl) rfl (fun X F r => ?_)
  have k224 := kd224
  have k225 := kd225
  have hn := hi.cn_le
  have hm := hi.gn_le
  refine g_iload_n (pc := 0) F dX8_count_0 rfl ?_
  by_cases hw : 0 ≤ w ∧ w ≤ 10
  · obtain ⟨q, hq, hwq⟩ := i_le_of (n := 10) (Int32.not_lt.mpr hw.1) hw.2 (by decide)
    match q, hq, hwq with
    | 0, _, hwq =>
      refine g_tableIn (pc := 1) (tgt := 60) F dX8_count_1 (by rw [hwq]; decide) (by rw [hwq]; decide) (by rw [hwq]; rfl) (by decide) ?_
      refine g_aload_n (pc := 60) F dX8_count_60 rfl ?_
      refine g_getr (pc := 61) F fl_X8_7 (by assumption) rfl dX8_count_61 ?_
      refine g_iload_n (pc := 64) F dX8_count_64 rfl ?_
      refine g_iald (pc := 65) (q := 0) F k225 rfl hwq (by decide) dX8_count_65 ?_
      refine g_iret (pc := 66) F r dX8_count_66 ?_
      have e : oCount (AM M pn tn) w = M 225 0 := by
        unfold oCount
        rw [if_pos hw, hwq, ixN_nI (by decide)]
        exact rfl
      rw [e]
      exact ⟨rfl, rfl⟩
    | 1, _, hwq =>
      refine g_tableIn (pc := 1) (tgt := 60) F dX8_count_1 (by rw [hwq]; decide) (by rw [hwq]; decide) (by rw [hwq]; rfl) (by decide) ?_
      refine g_aload_n (pc := 60) F dX8_count_60 rfl ?_
      refine g_getr (pc := 61) F fl_X8_7 (by assumption) rfl dX8_count_61 ?_
      refine g_iload_n (pc := 64) F dX8_count_64 rfl ?_
      refine g_iald (pc := 65) (q := 1) F k225 rfl hwq (by decide) dX8_count_65 ?_
      refine g_iret (pc := 66) F r dX8_count_66 ?_
      have e : oCount (AM M pn tn) w = M 225 1 := by
        unfold oCount
        rw [if_pos hw, hwq, ixN_nI (by decide)]
        exact rfl
      rw [e]
      exact ⟨rfl, rfl⟩
    | 2, _, hwq =>
      refine g_tableIn (pc := 1) (tgt := 60) F dX8_count_1 (by rw [hwq]; decide) (by rw [hwq]; decide) (by rw [hwq]; rfl) (by decide) ?_
      refine g_aload_n (pc := 60) F dX8_count_60 rfl ?_
      refine g_getr (pc := 61) F fl_X8_7 (by assumption) rfl dX8_count_61 ?_
      refine g_iload_n (pc := 64) F dX8_count_64 rfl ?_
      refine g_iald (pc := 65) (q := 2) F k225 rfl hwq (by decide) dX8_count_65 ?_
      refine g_iret (pc := 66) F r dX8_count_66 ?_
      have e : oCount (AM M pn tn) w = M 225 2 := by
        unfold oCount
        rw [if_pos hw, hwq, ixN_nI (by decide)]
        exact rfl
      rw [e]
      exact ⟨rfl, rfl⟩
    | 3, _, hwq =>
      refine g_tableIn (pc := 1) (tgt := 60) F dX8_count_1 (by rw [hwq]; decide) (by rw [hwq]; decide) (by rw [hwq]; rfl) (by decide) ?_
      refine g_aload_n (pc := 60) F dX8_count_60 rfl ?_
      refine g_getr (pc := 61) F fl_X8_7 (by assumption) rfl dX8_count_61 ?_
      refine g_iload_n (pc := 64) F dX8_count_64 rfl ?_
      refine g_iald (pc := 65) (q := 3) F k225 rfl hwq (by decide) dX8_count_65 ?_
      refine g_iret (pc := 66) F r dX8_count_66 ?_
      have e : oCount (AM M pn tn) w = M 225 3 := by
        unfold oCount
        rw [if_pos hw, hwq, ixN_nI (by decide)]
        exact rfl
      rw [e]
      exact ⟨rfl, rfl⟩
    | 4, _, hwq =>
      refine g_tableIn (pc := 1) (tgt := 67) F dX8_count_1 (by rw [hwq]; decide) (by rw [hwq]; decide) (by rw [hwq]; rfl) (by decide) ?_
      refine g_aload_n (pc := 67) F dX8_count_67 rfl ?_
      refine g_bipush (pc := 68) (v := 8) F dX8_count_68 (by decide) ?_
      refine g_stk (st' := [.int (nI 8), .ref (ad g 224)]) rfl ?_
      refine g_callV (pc := 70) (rf2 := 1) (rl2 := 22) F cs_X8_74 k224 rfl (by decide) (by rfl) (by rfl) (Nat.le_of_ble_eq_true (by rfl)) (by decide) dX8_count_70 (c_X8_sum _ g _ t hi 8 (by decide)) (fun v M2 hz => ?_)
      obtain ⟨rfl, h2⟩ := hz
      rw [h2]
      refine g_iret (pc := 73) F r dX8_count_73 ?_
      have e : oCount (AM M pn tn) w = sumM (M 225) 8 (cn (M 225)) := by
        unfold oCount
        rw [if_pos hw, hwq, ixN_nI (by decide)]
        exact sumW_M (fun _ => rfl) _ hn.1
      rw [e]
      exact ⟨rfl, rfl⟩
    | 5, _, hwq =>
      refine g_tableIn (pc := 1) (tgt := 74) F dX8_count_1 (by rw [hwq]; decide) (by rw [hwq]; decide) (by rw [hwq]; rfl) (by decide) ?_
      refine g_aload_n (pc := 74) F dX8_count_74 rfl ?_
      refine g_bipush (pc := 75) (v := 12) F dX8_count_75 (by decide) ?_
      refine g_stk (st' := [.int (nI 12), .ref (ad g 224)]) rfl ?_
      refine g_callV (pc := 77) (rf2 := 1) (rl2 := 22) F cs_X8_74 k224 rfl (by decide) (by rfl) (by rfl) (Nat.le_of_ble_eq_true (by rfl)) (by decide) dX8_count_77 (c_X8_sum _ g _ t hi 12 (by decide)) (fun v M2 hz => ?_)
      obtain ⟨rfl, h2⟩ := hz
      rw [h2]
      refine g_iret (pc := 80) F r dX8_count_80 ?_
      have e : oCount (AM M pn tn) w = sumM (M 225) 12 (cn (M 225)) := by
        unfold oCount
        rw [if_pos hw, hwq, ixN_nI (by decide)]
        exact sumW_M (fun _ => rfl) _ hn.1
      rw [e]
      exact ⟨rfl, rfl⟩
    | 6, _, hwq =>
      refine g_tableIn (pc := 1) (tgt := 81) F dX8_count_1 (by rw [hwq]; decide) (by rw [hwq]; decide) (by rw [hwq]; rfl) (by decide) ?_
      refine g_aload_n (pc := 81) F dX8_count_81 rfl ?_
      refine g_bipush (pc := 82) (v := 13) F dX8_count_82 (by decide) ?_
      refine g_stk (st' := [.int (nI 13), .ref (ad g 224)]) rfl ?_
      refine g_callV (pc := 84) (rf2 := 1) (rl2 := 22) F cs_X8_74 k224 rfl (by decide) (by rfl) (by rfl) (Nat.le_of_ble_eq_true (by rfl)) (by decide) dX8_count_84 (c_X8_sum _ g _ t hi 13 (by decide)) (fun v M2 hz => ?_)
      obtain ⟨rfl, h2⟩ := hz
      rw [h2]
      refine g_iret (pc := 87) F r dX8_count_87 ?_
      have e : oCount (AM M pn tn) w = sumM (M 225) 13 (cn (M 225)) := by
        unfold oCount
        rw [if_pos hw, hwq, ixN_nI (by decide)]
        exact sumW_M (fun _ => rfl) _ hn.1
      rw [e]
      exact ⟨rfl, rfl⟩
    | 7, _, hwq =>
      refine g_tableIn (pc := 1) (tgt := 88) F dX8_count_1 (by rw [hwq]; decide) (by rw [hwq]; decide) (by rw [hwq]; rfl) (by decide) ?_
      refine g_aload_n (pc := 88) F dX8_count_88 rfl ?_
      refine g_callV (pc := 89) (rf2 := 2) (rl2 := 43) F cs_X8_141 k224 rfl (by decide) (by rfl) (by rfl) (Nat.le_of_ble_eq_true (by rfl)) (by decide) dX8_count_89 (c_X8_ending _ g _ t hi) (fun v M2 hz => ?_)
      obtain ⟨rfl, h2⟩ := hz
      rw [h2]
      refine g_iret (pc := 92) F r dX8_count_92 ?_
      have e : oCount (AM M pn tn) w = aboutW (M 225) (cn (M 225)) := by
        unfold oCount
        rw [if_pos hw, hwq, ixN_nI (by decide)]
        exact rfl
      rw [e]
      exact ⟨rfl, rfl⟩
    | 8, _, hwq =>
      refine g_tableIn (pc := 1) (tgt := 93) F dX8_count_1 (by rw [hwq]; decide) (by rw [hwq]; decide) (by rw [hwq]; rfl) (by decide) ?_
      refine g_aload_n (pc := 93) F dX8_count_93 rfl ?_
      refine g_callV (pc := 94) (rf2 := 1) (rl2 := 22) F cs_X8_145 k224 rfl (by decide) (by rfl) (by rfl) (Nat.le_of_ble_eq_true (by rfl)) (by decide) dX8_count_94 (c_X8_oldest _ g _ t hi) (fun v M2 hz => ?_)
      obtain ⟨rfl, h2⟩ := hz
      rw [h2]
      refine g_iret (pc := 97) F r dX8_count_97 ?_
      have e : oCount (AM M pn tn) w = oldestW (M 225) (cn (M 225)) := by
        unfold oCount
        rw [if_pos hw, hwq, ixN_nI (by decide)]
        exact rfl
      rw [e]
      exact ⟨rfl, rfl⟩
    | 9, _, hwq =>
      refine g_tableIn (pc := 1) (tgt := 98) F dX8_count_1 (by rw [hwq]; decide) (by rw [hwq]; decide) (by rw [hwq]; rfl) (by decide) ?_
      refine g_aload_n (pc := 98) F dX8_count_98 rfl ?_
      refine g_geti (pc := 99) F fl_X8_32 (by assumption) rfl dX8_count_99 ?_
      refine g_iret (pc := 102) F r dX8_count_102 ?_
      have e : oCount (AM M pn tn) w = M 224 4 := by
        unfold oCount
        rw [if_pos hw, hwq, ixN_nI (by decide)]
        exact hpn.symm
      rw [e]
      exact ⟨rfl, rfl⟩
    | 10, _, hwq =>
      refine g_tableIn (pc := 1) (tgt := 103) F dX8_count_1 (by rw [hwq]; decide) (by rw [hwq]; decide) (by rw [hwq]; rfl) (by decide) ?_
      refine g_aload_n (pc := 103) F dX8_count_103 rfl ?_
      refine g_geti (pc := 104) F fl_X8_148 (by assumption) rfl dX8_count_104 ?_
      refine g_iret (pc := 107) F r dX8_count_107 ?_
      have e : oCount (AM M pn tn) w = M 224 7 := by
        unfold oCount
        rw [if_pos hw, hwq, ixN_nI (by decide)]
        exact htn.symm
      rw [e]
      exact ⟨rfl, rfl⟩
  · refine g_tableOut (pc := 1) (tgt := 108) F dX8_count_1 (by
      have a0 : (0 : Int32).toInt = 0 := rfl
      have a1 : (10 : Int32).toInt = 10 := rfl
      rcases Int32.lt_or_le w 0 with h | h
      · have := Int32.lt_iff_toInt_lt.mp h
        omega
      · have := Int32.lt_iff_toInt_lt.mp (Int32.not_le.mp (fun q => hw ⟨h, q⟩))
        omega) (by decide) ?_
    refine g_ldc (pc := 108) F wk_X8_88 dX8_count_108 ?_
    refine g_iret (pc := 110) F r dX8_count_110 ?_
    have e : oCount (AM M pn tn) w = -1000001 := if_neg hw
    rw [e]
    exact ⟨rfl, rfl⟩

set_option maxHeartbeats 4000000 in
set_option maxRecDepth 100000 in
theorem c_X8_clockOf (l : Launch) (g : Gm) (M : Mem) (t : Nat) (hi : Inv (M 225) t) (x w : Int32) : Cn l yX8_clockOf cX8_clockOf 3 (some .int) 2 43 g [.ref (ad g 224), .int x, .int w] M (fun v M2 => v = some (.int (oClockOf (M 225) x w)) ∧ M2 = M) := by
  refine Cn.intro (lv0 := [some (.ref (ad g 224)), some (.int x), some (.int w)]) 0 (by decide +kernel) (Nat.le_of_ble_eq_true rfl) rfl (fun X F r => ?_)
  have k224 := kd224
  have k225 := kd225
  have hn := hi.cn_le
  have hm := hi.gn_le
  refine g_aload_n (pc := 0) F dX8_clockOf_0 rfl ?_
  refine g_iload_n (pc := 1) F dX8_clockOf_1 rfl ?_
  refine g_callV (pc := 2) (rf2 := 0) (rl2 := 0) F cs_X8_93 k224 rfl (by decide) (by rfl) (by rfl) (Nat.le_of_ble_eq_true (by rfl)) (by decide) dX8_clockOf_2 (c_X8_isClock _ g _ x) (fun v M2 hz => ?_)
  obtain ⟨rfl, h2⟩ := hz
  rw [h2]
  refine g_if_eq (pc := 5) (tgt := 18) F dX8_clockOf_5 (by decide) (fun c5 => ?_) (fun c5 => ?_)
  · refine g_ldc (pc := 18) F wk_X8_88 dX8_clockOf_18 ?_
    refine g_iret (pc := 20) F r dX8_clockOf_20 ?_
    have e : oClockOf (M 225) x w = -1000001 := if_neg (fun q => b2i_0 c5 q.1)
    rw [e]
    exact ⟨rfl, rfl⟩
  · refine g_iload_n (pc := 8) F dX8_clockOf_8 rfl ?_
    refine g_iconst (pc := 9) (v := 0) F dX8_clockOf_9 (by decide) ?_
    refine g_bipush (pc := 10) (v := 13) F dX8_clockOf_10 (by decide) ?_
    refine g_callS (pc := 12) (rf2 := 0) (rl2 := 0) F cs_X8_80 (by rfl) (by rfl) (Nat.le_of_ble_eq_true (by rfl)) (by decide) dX8_clockOf_12 (c_X8_in _ g _ w 0 13) (fun v M2 hz => ?_)
    obtain ⟨rfl, h2⟩ := hz
    rw [h2]
    refine g_if_ne (pc := 15) (tgt := 21) F dX8_clockOf_15 (by decide) (fun c15 => ?_) (fun c15 => ?_)
    · obtain ⟨i, hin, hx⟩ := inC_ex hi (b2i_1 c5)
      obtain ⟨q, hq, hwq⟩ := i_le_of (n := 13) (Int32.not_lt.mpr (b2i_1 c15).1) (b2i_1 c15).2 (by decide)
      refine g_iload_n (pc := 21) F dX8_clockOf_21 rfl ?_
      match q, hq, hwq with
      | 0, _, hwq =>
        refine g_tableOut (pc := 22) (tgt := 126) F dX8_clockOf_22 (by rw [hwq]; decide) (by decide) ?_
        refine g_aload_n (pc := 126) F dX8_clockOf_126 rfl ?_
        refine g_iload_n (pc := 127) F dX8_clockOf_127 rfl ?_
        refine g_iload_n (pc := 128) F dX8_clockOf_128 rfl ?_
        refine g_stk (st' := [.int (nI 0), .int (nI i), .ref (ad g 224)]) (by rw [hx, hwq] <;> rfl) ?_
        refine g_callV (pc := 129) (rf2 := 0) (rl2 := 0) F cs_X8_36 k224 rfl (by decide) (by rfl) (by rfl) (Nat.le_of_ble_eq_true (by rfl)) (by decide) dX8_clockOf_129 (c_X8_of _ g _ i (by omega) 0 (by decide)) (fun v M2 hz => ?_)
        obtain ⟨rfl, h2⟩ := hz
        rw [h2]
        refine g_iret (pc := 132) F r dX8_clockOf_132 ?_
        have e : oClockOf (M 225) x w = M 225 (4 + 15 * i + 0) := by
          unfold oClockOf
          rw [if_pos ⟨b2i_1 c5, b2i_1 c15⟩, hx, ixN_nI (by omega), hwq, ixN_nI (by decide)]
          rfl
        rw [e]
        exact ⟨rfl, rfl⟩
      | 1, _, hwq =>
        refine g_tableOut (pc := 22) (tgt := 126) F dX8_clockOf_22 (by rw [hwq]; decide) (by decide) ?_
        refine g_aload_n (pc := 126) F dX8_clockOf_126 rfl ?_
        refine g_iload_n (pc := 127) F dX8_clockOf_127 rfl ?_
        refine g_iload_n (pc := 128) F dX8_clockOf_128 rfl ?_
        refine g_stk (st' := [.int (nI 1), .int (nI i), .ref (ad g 224)]) (by rw [hx, hwq] <;> rfl) ?_
        refine g_callV (pc := 129) (rf2 := 0) (rl2 := 0) F cs_X8_36 k224 rfl (by decide) (by rfl) (by rfl) (Nat.le_of_ble_eq_true (by rfl)) (by decide) dX8_clockOf_129 (c_X8_of _ g _ i (by omega) 1 (by decide)) (fun v M2 hz => ?_)
        obtain ⟨rfl, h2⟩ := hz
        rw [h2]
        refine g_iret (pc := 132) F r dX8_clockOf_132 ?_
        have e : oClockOf (M 225) x w = M 225 (4 + 15 * i + 1) := by
          unfold oClockOf
          rw [if_pos ⟨b2i_1 c5, b2i_1 c15⟩, hx, ixN_nI (by omega), hwq, ixN_nI (by decide)]
          rfl
        rw [e]
        exact ⟨rfl, rfl⟩
      | 2, _, hwq =>
        refine g_tableOut (pc := 22) (tgt := 126) F dX8_clockOf_22 (by rw [hwq]; decide) (by decide) ?_
        refine g_aload_n (pc := 126) F dX8_clockOf_126 rfl ?_
        refine g_iload_n (pc := 127) F dX8_clockOf_127 rfl ?_
        refine g_iload_n (pc := 128) F dX8_clockOf_128 rfl ?_
        refine g_stk (st' := [.int (nI 2), .int (nI i), .ref (ad g 224)]) (by rw [hx, hwq] <;> rfl) ?_
        refine g_callV (pc := 129) (rf2 := 0) (rl2 := 0) F cs_X8_36 k224 rfl (by decide) (by rfl) (by rfl) (Nat.le_of_ble_eq_true (by rfl)) (by decide) dX8_clockOf_129 (c_X8_of _ g _ i (by omega) 2 (by decide)) (fun v M2 hz => ?_)
        obtain ⟨rfl, h2⟩ := hz
        rw [h2]
        refine g_iret (pc := 132) F r dX8_clockOf_132 ?_
        have e : oClockOf (M 225) x w = M 225 (4 + 15 * i + 2) := by
          unfold oClockOf
          rw [if_pos ⟨b2i_1 c5, b2i_1 c15⟩, hx, ixN_nI (by omega), hwq, ixN_nI (by decide)]
          rfl
        rw [e]
        exact ⟨rfl, rfl⟩
      | 3, _, hwq =>
        refine g_tableOut (pc := 22) (tgt := 126) F dX8_clockOf_22 (by rw [hwq]; decide) (by decide) ?_
        refine g_aload_n (pc := 126) F dX8_clockOf_126 rfl ?_
        refine g_iload_n (pc := 127) F dX8_clockOf_127 rfl ?_
        refine g_iload_n (pc := 128) F dX8_clockOf_128 rfl ?_
        refine g_stk (st' := [.int (nI 3), .int (nI i), .ref (ad g 224)]) (by rw [hx, hwq] <;> rfl) ?_
        refine g_callV (pc := 129) (rf2 := 0) (rl2 := 0) F cs_X8_36 k224 rfl (by decide) (by rfl) (by rfl) (Nat.le_of_ble_eq_true (by rfl)) (by decide) dX8_clockOf_129 (c_X8_of _ g _ i (by omega) 3 (by decide)) (fun v M2 hz => ?_)
        obtain ⟨rfl, h2⟩ := hz
        rw [h2]
        refine g_iret (pc := 132) F r dX8_clockOf_132 ?_
        have e : oClockOf (M 225) x w = M 225 (4 + 15 * i + 3) := by
          unfold oClockOf
          rw [if_pos ⟨b2i_1 c5, b2i_1 c15⟩, hx, ixN_nI (by omega), hwq, ixN_nI (by decide)]
          rfl
        rw [e]
        exact ⟨rfl, rfl⟩
      | 4, _, hwq =>
        refine g_tableOut (pc := 22) (tgt := 126) F dX8_clockOf_22 (by rw [hwq]; decide) (by decide) ?_
        refine g_aload_n (pc := 126) F dX8_clockOf_126 rfl ?_
        refine g_iload_n (pc := 127) F dX8_clockOf_127 rfl ?_
        refine g_iload_n (pc := 128) F dX8_clockOf_128 rfl ?_
        refine g_stk (st' := [.int (nI 4), .int (nI i), .ref (ad g 224)]) (by rw [hx, hwq] <;> rfl) ?_
        refine g_callV (pc := 129) (rf2 := 0) (rl2 := 0) F cs_X8_36 k224 rfl (by decide) (by rfl) (by rfl) (Nat.le_of_ble_eq_true (by rfl)) (by decide) dX8_clockOf_129 (c_X8_of _ g _ i (by omega) 4 (by decide)) (fun v M2 hz => ?_)
        obtain ⟨rfl, h2⟩ := hz
        rw [h2]
        refine g_iret (pc := 132) F r dX8_clockOf_132 ?_
        have e : oClockOf (M 225) x w = M 225 (4 + 15 * i + 4) := by
          unfold oClockOf
          rw [if_pos ⟨b2i_1 c5, b2i_1 c15⟩, hx, ixN_nI (by omega), hwq, ixN_nI (by decide)]
          rfl
        rw [e]
        exact ⟨rfl, rfl⟩
      | 5, _, hwq =>
        refine g_tableIn (pc := 22) (tgt := 72) F dX8_clockOf_22 (by rw [hwq]; decide) (by rw [hwq]; decide) (by rw [hwq]; rfl) (by decide) ?_
        refine g_aload_n (pc := 72) F dX8_clockOf_72 rfl ?_
        refine g_iload_n (pc := 73) F dX8_clockOf_73 rfl ?_
        refine g_bipush (pc := 74) (v := 6) F dX8_clockOf_74 (by decide) ?_
        refine g_stk (st' := [.int (nI 6), .int (nI i), .ref (ad g 224)]) (by rw [hx] <;> rfl) ?_
        refine g_callV (pc := 76) (rf2 := 0) (rl2 := 0) F cs_X8_36 k224 rfl (by decide) (by rfl) (by rfl) (Nat.le_of_ble_eq_true (by rfl)) (by decide) dX8_clockOf_76 (c_X8_of _ g _ i (by omega) 6 (by decide)) (fun v M2 hz => ?_)
        obtain ⟨rfl, h2⟩ := hz
        rw [h2]
        refine g_iret (pc := 79) F r dX8_clockOf_79 ?_
        have e : oClockOf (M 225) x w = M 225 (4 + 15 * i + 6) := by
          unfold oClockOf
          rw [if_pos ⟨b2i_1 c5, b2i_1 c15⟩, hx, ixN_nI (by omega), hwq, ixN_nI (by decide)]
          rfl
        rw [e]
        exact ⟨rfl, rfl⟩
      | 6, _, hwq =>
        refine g_tableIn (pc := 22) (tgt := 80) F dX8_clockOf_22 (by rw [hwq]; decide) (by rw [hwq]; decide) (by rw [hwq]; rfl) (by decide) ?_
        refine g_aload_n (pc := 80) F dX8_clockOf_80 rfl ?_
        refine g_iload_n (pc := 81) F dX8_clockOf_81 rfl ?_
        refine g_bipush (pc := 82) (v := 7) F dX8_clockOf_82 (by decide) ?_
        refine g_stk (st' := [.int (nI 7), .int (nI i), .ref (ad g 224)]) (by rw [hx] <;> rfl) ?_
        refine g_callV (pc := 84) (rf2 := 0) (rl2 := 0) F cs_X8_36 k224 rfl (by decide) (by rfl) (by rfl) (Nat.le_of_ble_eq_true (by rfl)) (by decide) dX8_clockOf_84 (c_X8_of _ g _ i (by omega) 7 (by decide)) (fun v M2 hz => ?_)
        obtain ⟨rfl, h2⟩ := hz
        rw [h2]
        refine g_iret (pc := 87) F r dX8_clockOf_87 ?_
        have e : oClockOf (M 225) x w = M 225 (4 + 15 * i + 7) := by
          unfold oClockOf
          rw [if_pos ⟨b2i_1 c5, b2i_1 c15⟩, hx, ixN_nI (by omega), hwq, ixN_nI (by decide)]
          rfl
        rw [e]
        exact ⟨rfl, rfl⟩
      | 7, _, hwq =>
        refine g_tableIn (pc := 22) (tgt := 88) F dX8_clockOf_22 (by rw [hwq]; decide) (by rw [hwq]; decide) (by rw [hwq]; rfl) (by decide) ?_
        refine g_aload_n (pc := 88) F dX8_clockOf_88 rfl ?_
        refine g_iload_n (pc := 89) F dX8_clockOf_89 rfl ?_
        refine g_stk (st' := [.int (nI i), .ref (ad g 224)]) (by rw [hx] <;> rfl) ?_
        refine g_callV (pc := 90) (rf2 := 1) (rl2 := 22) F cs_X8_61 k224 rfl (by decide) (by rfl) (by rfl) (Nat.le_of_ble_eq_true (by rfl)) (by decide) dX8_clockOf_90 (c_X8_rest _ g _ i (by omega)) (fun v M2 hz => ?_)
        obtain ⟨rfl, h2⟩ := hz
        rw [h2]
        refine g_iret (pc := 93) F r dX8_clockOf_93 ?_
        have e : oClockOf (M 225) x w = restW (M 225) i := by
          unfold oClockOf
          rw [if_pos ⟨b2i_1 c5, b2i_1 c15⟩, hx, ixN_nI (by omega), hwq, ixN_nI (by decide)]
          rfl
        rw [e]
        exact ⟨rfl, rfl⟩
      | 8, _, hwq =>
        refine g_tableIn (pc := 22) (tgt := 126) F dX8_clockOf_22 (by rw [hwq]; decide) (by rw [hwq]; decide) (by rw [hwq]; rfl) (by decide) ?_
        refine g_aload_n (pc := 126) F dX8_clockOf_126 rfl ?_
        refine g_iload_n (pc := 127) F dX8_clockOf_127 rfl ?_
        refine g_iload_n (pc := 128) F dX8_clockOf_128 rfl ?_
        refine g_stk (st' := [.int (nI 8), .int (nI i), .ref (ad g 224)]) (by rw [hx, hwq] <;> rfl) ?_
        refine g_callV (pc := 129) (rf2 := 0) (rl2 := 0) F cs_X8_36 k224 rfl (by decide) (by rfl) (by rfl) (Nat.le_of_ble_eq_true (by rfl)) (by decide) dX8_clockOf_129 (c_X8_of _ g _ i (by omega) 8 (by decide)) (fun v M2 hz => ?_)
        obtain ⟨rfl, h2⟩ := hz
        rw [h2]
        refine g_iret (pc := 132) F r dX8_clockOf_132 ?_
        have e : oClockOf (M 225) x w = M 225 (4 + 15 * i + 8) := by
          unfold oClockOf
          rw [if_pos ⟨b2i_1 c5, b2i_1 c15⟩, hx, ixN_nI (by omega), hwq, ixN_nI (by decide)]
          rfl
        rw [e]
        exact ⟨rfl, rfl⟩
      | 9, _, hwq =>
        refine g_tableIn (pc := 22) (tgt := 126) F dX8_clockOf_22 (by rw [hwq]; decide) (by rw [hwq]; decide) (by rw [hwq]; rfl) (by decide) ?_
        refine g_aload_n (pc := 126) F dX8_clockOf_126 rfl ?_
        refine g_iload_n (pc := 127) F dX8_clockOf_127 rfl ?_
        refine g_iload_n (pc := 128) F dX8_clockOf_128 rfl ?_
        refine g_stk (st' := [.int (nI 9), .int (nI i), .ref (ad g 224)]) (by rw [hx, hwq] <;> rfl) ?_
        refine g_callV (pc := 129) (rf2 := 0) (rl2 := 0) F cs_X8_36 k224 rfl (by decide) (by rfl) (by rfl) (Nat.le_of_ble_eq_true (by rfl)) (by decide) dX8_clockOf_129 (c_X8_of _ g _ i (by omega) 9 (by decide)) (fun v M2 hz => ?_)
        obtain ⟨rfl, h2⟩ := hz
        rw [h2]
        refine g_iret (pc := 132) F r dX8_clockOf_132 ?_
        have e : oClockOf (M 225) x w = M 225 (4 + 15 * i + 9) := by
          unfold oClockOf
          rw [if_pos ⟨b2i_1 c5, b2i_1 c15⟩, hx, ixN_nI (by omega), hwq, ixN_nI (by decide)]
          rfl
        rw [e]
        exact ⟨rfl, rfl⟩
      | 10, _, hwq =>
        refine g_tableIn (pc := 22) (tgt := 94) F dX8_clockOf_22 (by rw [hwq]; decide) (by rw [hwq]; decide) (by rw [hwq]; rfl) (by decide) ?_
        refine g_aload_n (pc := 94) F dX8_clockOf_94 rfl ?_
        refine g_iload_n (pc := 95) F dX8_clockOf_95 rfl ?_
        refine g_bipush (pc := 96) (v := 8) F dX8_clockOf_96 (by decide) ?_
        refine g_stk (st' := [.int (nI 8), .int (nI i), .ref (ad g 224)]) (by rw [hx] <;> rfl) ?_
        refine g_callV (pc := 98) (rf2 := 0) (rl2 := 0) F cs_X8_36 k224 rfl (by decide) (by rfl) (by rfl) (Nat.le_of_ble_eq_true (by rfl)) (by decide) dX8_clockOf_98 (c_X8_of _ g _ i (by omega) 8 (by decide)) (fun v M2 hz => ?_)
        obtain ⟨rfl, h2⟩ := hz
        rw [h2]
        refine g_if_ne (pc := 101) (tgt := 109) F dX8_clockOf_101 (by decide) (fun c101 => ?_) (fun c101 => ?_)
        · have c101 : ¬ cw (M 225) i 8 = 0 := c101
          refine g_aload_n (pc := 109) F dX8_clockOf_109 rfl ?_
          refine g_iload_n (pc := 110) F dX8_clockOf_110 rfl ?_
          refine g_bipush (pc := 111) (v := 11) F dX8_clockOf_111 (by decide) ?_
          refine g_stk (st' := [.int (nI 11), .int (nI i), .ref (ad g 224)]) (by rw [hx] <;> rfl) ?_
          refine g_callV (pc := 113) (rf2 := 0) (rl2 := 0) F cs_X8_36 k224 rfl (by decide) (by rfl) (by rfl) (Nat.le_of_ble_eq_true (by rfl)) (by decide) dX8_clockOf_113 (c_X8_of _ g _ i (by omega) 11 (by decide)) (fun v M2 hz => ?_)
          obtain ⟨rfl, h2⟩ := hz
          rw [h2]
          refine g_iret (pc := 116) F r dX8_clockOf_116 ?_
          have e : oClockOf (M 225) x w = (if cw (M 225) i 8 = 0 then -1000004 else cw (M 225) i 11) := by
            unfold oClockOf
            rw [if_pos ⟨b2i_1 c5, b2i_1 c15⟩, hx, ixN_nI (by omega), hwq, ixN_nI (by decide)]
            rfl
          rw [e]
          exact ⟨by rw [if_neg c101] <;> rfl, rfl⟩
        · have c101 : cw (M 225) i 8 = 0 := c101
          refine g_ldc (pc := 104) F wk_X8_109 dX8_clockOf_104 ?_
          refine g_goto (pc := 106) (tgt := 116) F dX8_clockOf_106 (by decide) ?_
          refine g_iret (pc := 116) F r dX8_clockOf_116 ?_
          have e : oClockOf (M 225) x w = (if cw (M 225) i 8 = 0 then -1000004 else cw (M 225) i 11) := by
            unfold oClockOf
            rw [if_pos ⟨b2i_1 c5, b2i_1 c15⟩, hx, ixN_nI (by omega), hwq, ixN_nI (by decide)]
            rfl
          rw [e]
          exact ⟨by rw [if_pos c101], rfl⟩
      | 11, _, hwq =>
        refine g_tableIn (pc := 22) (tgt := 117) F dX8_clockOf_22 (by rw [hwq]; decide) (by rw [hwq]; decide) (by rw [hwq]; rfl) (by decide) ?_
        refine g_aload_n (pc := 117) F dX8_clockOf_117 rfl ?_
        refine g_iload_n (pc := 118) F dX8_clockOf_118 rfl ?_
        refine g_iload_n (pc := 119) F dX8_clockOf_119 rfl ?_
        refine g_iconst (pc := 120) (v := 1) F dX8_clockOf_120 (by decide) ?_
        refine g_iadd (pc := 121) F dX8_clockOf_121 ?_
        refine g_stk (st' := [.int (nI 12), .int (nI i), .ref (ad g 224)]) (by rw [hx, hwq] <;> rfl) ?_
        refine g_callV (pc := 122) (rf2 := 0) (rl2 := 0) F cs_X8_36 k224 rfl (by decide) (by rfl) (by rfl) (Nat.le_of_ble_eq_true (by rfl)) (by decide) dX8_clockOf_122 (c_X8_of _ g _ i (by omega) 12 (by decide)) (fun v M2 hz => ?_)
        obtain ⟨rfl, h2⟩ := hz
        rw [h2]
        refine g_iret (pc := 125) F r dX8_clockOf_125 ?_
        have e : oClockOf (M 225) x w = M 225 (4 + 15 * i + 12) := by
          unfold oClockOf
          rw [if_pos ⟨b2i_1 c5, b2i_1 c15⟩, hx, ixN_nI (by omega), hwq, ixN_nI (by decide)]
          rfl
        rw [e]
        exact ⟨rfl, rfl⟩
      | 12, _, hwq =>
        refine g_tableIn (pc := 22) (tgt := 117) F dX8_clockOf_22 (by rw [hwq]; decide) (by rw [hwq]; decide) (by rw [hwq]; rfl) (by decide) ?_
        refine g_aload_n (pc := 117) F dX8_clockOf_117 rfl ?_
        refine g_iload_n (pc := 118) F dX8_clockOf_118 rfl ?_
        refine g_iload_n (pc := 119) F dX8_clockOf_119 rfl ?_
        refine g_iconst (pc := 120) (v := 1) F dX8_clockOf_120 (by decide) ?_
        refine g_iadd (pc := 121) F dX8_clockOf_121 ?_
        refine g_stk (st' := [.int (nI 13), .int (nI i), .ref (ad g 224)]) (by rw [hx, hwq] <;> rfl) ?_
        refine g_callV (pc := 122) (rf2 := 0) (rl2 := 0) F cs_X8_36 k224 rfl (by decide) (by rfl) (by rfl) (Nat.le_of_ble_eq_true (by rfl)) (by decide) dX8_clockOf_122 (c_X8_of _ g _ i (by omega) 13 (by decide)) (fun v M2 hz => ?_)
        obtain ⟨rfl, h2⟩ := hz
        rw [h2]
        refine g_iret (pc := 125) F r dX8_clockOf_125 ?_
        have e : oClockOf (M 225) x w = M 225 (4 + 15 * i + 13) := by
          unfold oClockOf
          rw [if_pos ⟨b2i_1 c5, b2i_1 c15⟩, hx, ixN_nI (by omega), hwq, ixN_nI (by decide)]
          rfl
        rw [e]
        exact ⟨rfl, rfl⟩
      | 13, _, hwq =>
        refine g_tableIn (pc := 22) (tgt := 117) F dX8_clockOf_22 (by rw [hwq]; decide) (by rw [hwq]; decide) (by rw [hwq]; rfl) (by decide) ?_
        refine g_aload_n (pc := 117) F dX8_clockOf_117 rfl ?_
        refine g_iload_n (pc := 118) F dX8_clockOf_118 rfl ?_
        refine g_iload_n (pc := 119) F dX8_clockOf_119 rfl ?_
        refine g_iconst (pc := 120) (v := 1) F dX8_clockOf_120 (by decide) ?_
        refine g_iadd (pc := 121) F dX8_clockOf_121 ?_
        refine g_stk (st' := [.int (nI 14), .int (nI i), .ref (ad g 224)]) (by rw [hx, hwq] <;> rfl) ?_
        refine g_callV (pc := 122) (rf2 := 0) (rl2 := 0) F cs_X8_36 k224 rfl (by decide) (by rfl) (by rfl) (Nat.le_of_ble_eq_true (by rfl)) (by decide) dX8_clockOf_122 (c_X8_of _ g _ i (by omega) 14 (by decide)) (fun v M2 hz => ?_)
        obtain ⟨rfl, h2⟩ := hz
        rw [h2]
        refine g_iret (pc := 125) F r dX8_clockOf_125 ?_
        have e : oClockOf (M 225) x w = M 225 (4 + 15 * i + 14) := by
          unfold oClockOf
          rw [if_pos ⟨b2i_1 c5, b2i_1 c15⟩, hx, ixN_nI (by omega), hwq, ixN_nI (by decide)]
          rfl
        rw [e]
        exact ⟨rfl, rfl⟩
    · skip
      refine g_ldc (pc := 18) F wk_X8_88 dX8_clockOf_18 ?_
      refine g_iret (pc := 20) F r dX8_clockOf_20 ?_
      have e : oClockOf (M 225) x w = -1000001 := if_neg (fun q => b2i_0 c15 q.2)
      rw [e]
      exact ⟨rfl, rfl⟩

set_option maxHeartbeats 4000000 in
set_option maxRecDepth 100000 in
theorem c_X8_groupOf (l : Launch) (g : Gm) (M : Mem) (t : Nat) (hi : Inv (M 225) t) (x w : Int32) : Cn l yX8_groupOf cX8_groupOf 3 (some .int) 3 67 g [.ref (ad g 224), .int x, .int w] M (fun v M2 => v = some (.int (oGroupOf (M 225) x w)) ∧ M2 = M) := by
  refine Cn.intro (lv0 := [some (.ref (ad g 224)), some (.int x), some (.int w)]) 0 (by decide +kernel) (Nat.le_of_ble_eq_true rfl) rfl (fun X F r => ?_)
  have k224 := kd224
  have k225 := kd225
  have hn := hi.cn_le
  have hm := hi.gn_le
  refine g_aload_n (pc := 0) F dX8_groupOf_0 rfl ?_
  refine g_iload_n (pc := 1) F dX8_groupOf_1 rfl ?_
  refine g_callV (pc := 2) (rf2 := 0) (rl2 := 0) F cs_X8_101 k224 rfl (by decide) (by rfl) (by rfl) (Nat.le_of_ble_eq_true (by rfl)) (by decide) dX8_groupOf_2 (c_X8_isGroup _ g _ x) (fun v M2 hz => ?_)
  obtain ⟨rfl, h2⟩ := hz
  rw [h2]
  refine g_if_eq (pc := 5) (tgt := 17) F dX8_groupOf_5 (by decide) (fun c5 => ?_) (fun c5 => ?_)
  · refine g_ldc (pc := 17) F wk_X8_88 dX8_groupOf_17 ?_
    refine g_iret (pc := 19) F r dX8_groupOf_19 ?_
    have e : oGroupOf (M 225) x w = -1000001 := if_neg (fun q => b2i_0 c5 q.1)
    rw [e]
    exact ⟨rfl, rfl⟩
  · refine g_iload_n (pc := 8) F dX8_groupOf_8 rfl ?_
    refine g_iconst (pc := 9) (v := 0) F dX8_groupOf_9 (by decide) ?_
    refine g_iconst (pc := 10) (v := 5) F dX8_groupOf_10 (by decide) ?_
    refine g_callS (pc := 11) (rf2 := 0) (rl2 := 0) F cs_X8_80 (by rfl) (by rfl) (Nat.le_of_ble_eq_true (by rfl)) (by decide) dX8_groupOf_11 (c_X8_in _ g _ w 0 5) (fun v M2 hz => ?_)
    obtain ⟨rfl, h2⟩ := hz
    rw [h2]
    refine g_if_ne (pc := 14) (tgt := 20) F dX8_groupOf_14 (by decide) (fun c14 => ?_) (fun c14 => ?_)
    · obtain ⟨gi, hgn, hgx⟩ := inG_ex hi (b2i_1 c5)
      obtain ⟨q, hq, hwq⟩ := i_le_of (n := 5) (Int32.not_lt.mpr (b2i_1 c14).1) (b2i_1 c14).2 (by decide)
      obtain ⟨lg, z, mt, -, -, g2, hz6, -⟩ := hi.2.2.2.2.2.2 gi hgn
      refine g_iload_n (pc := 20) F dX8_groupOf_20 rfl ?_
      match q, hq, hwq with
      | 0, _, hwq =>
        refine g_tableOut (pc := 21) (tgt := 73) F dX8_groupOf_21 (by rw [hwq]; decide) (by decide) ?_
        refine g_aload_n (pc := 73) F dX8_groupOf_73 rfl ?_
        refine g_iload_n (pc := 74) F dX8_groupOf_74 rfl ?_
        refine g_iload_n (pc := 75) F dX8_groupOf_75 rfl ?_
        refine g_stk (st' := [.int (nI 0), .int (nI gi), .ref (ad g 224)]) (by rw [hgx, hwq] <;> rfl) ?_
        refine g_callV (pc := 76) (rf2 := 0) (rl2 := 0) F cs_X8_68 k224 rfl (by decide) (by rfl) (by rfl) (Nat.le_of_ble_eq_true (by rfl)) (by decide) dX8_groupOf_76 (c_X8_ofGroup _ g _ gi (by omega) 0 (by decide)) (fun v M2 hz => ?_)
        obtain ⟨rfl, h2⟩ := hz
        rw [h2]
        refine g_iret (pc := 79) F r dX8_groupOf_79 ?_
        have e : oGroupOf (M 225) x w = M 225 (94 + 4 * gi + 0) := by
          unfold oGroupOf
          rw [if_pos ⟨b2i_1 c5, b2i_1 c14⟩, hgx, ixN_nI (by omega), hwq, ixN_nI (by decide)]
          rfl
        rw [e]
        exact ⟨rfl, rfl⟩
      | 1, _, hwq =>
        refine g_tableOut (pc := 21) (tgt := 73) F dX8_groupOf_21 (by rw [hwq]; decide) (by decide) ?_
        refine g_aload_n (pc := 73) F dX8_groupOf_73 rfl ?_
        refine g_iload_n (pc := 74) F dX8_groupOf_74 rfl ?_
        refine g_iload_n (pc := 75) F dX8_groupOf_75 rfl ?_
        refine g_stk (st' := [.int (nI 1), .int (nI gi), .ref (ad g 224)]) (by rw [hgx, hwq] <;> rfl) ?_
        refine g_callV (pc := 76) (rf2 := 0) (rl2 := 0) F cs_X8_68 k224 rfl (by decide) (by rfl) (by rfl) (Nat.le_of_ble_eq_true (by rfl)) (by decide) dX8_groupOf_76 (c_X8_ofGroup _ g _ gi (by omega) 1 (by decide)) (fun v M2 hz => ?_)
        obtain ⟨rfl, h2⟩ := hz
        rw [h2]
        refine g_iret (pc := 79) F r dX8_groupOf_79 ?_
        have e : oGroupOf (M 225) x w = M 225 (94 + 4 * gi + 1) := by
          unfold oGroupOf
          rw [if_pos ⟨b2i_1 c5, b2i_1 c14⟩, hgx, ixN_nI (by omega), hwq, ixN_nI (by decide)]
          rfl
        rw [e]
        exact ⟨rfl, rfl⟩
      | 2, _, hwq =>
        refine g_tableIn (pc := 21) (tgt := 52) F dX8_groupOf_21 (by rw [hwq]; decide) (by rw [hwq]; decide) (by rw [hwq]; rfl) (by decide) ?_
        refine g_aload_n (pc := 52) F dX8_groupOf_52 rfl ?_
        refine g_iload_n (pc := 53) F dX8_groupOf_53 rfl ?_
        refine g_stk (st' := [.int (nI gi), .ref (ad g 224)]) (by rw [hgx] <;> rfl) ?_
        refine g_callV (pc := 54) (rf2 := 2) (rl2 := 44) F cs_X8_131 k224 rfl (by decide) (by rfl) (by rfl) (Nat.le_of_ble_eq_true (by rfl)) (by decide) dX8_groupOf_54 (c_X8_leastRest _ g _ t hi gi (by omega) z hz6 g2) (fun v M2 hz => ?_)
        obtain ⟨rfl, h2⟩ := hz
        rw [h2]
        refine g_iret (pc := 57) F r dX8_groupOf_57 ?_
        have e : oGroupOf (M 225) x w = leastW (M 225) (nI z) (cn (M 225)) := by
          unfold oGroupOf
          rw [if_pos ⟨b2i_1 c5, b2i_1 c14⟩, hgx, ixN_nI (by omega), hwq, ixN_nI (by decide)]
          show leastW (M 225) (gw (M 225) gi 1) (cn (M 225)) = _
          rw [g2]
        rw [e]
        exact ⟨rfl, rfl⟩
      | 3, _, hwq =>
        refine g_tableIn (pc := 21) (tgt := 58) F dX8_groupOf_21 (by rw [hwq]; decide) (by rw [hwq]; decide) (by rw [hwq]; rfl) (by decide) ?_
        refine g_aload_n (pc := 58) F dX8_groupOf_58 rfl ?_
        refine g_iload_n (pc := 59) F dX8_groupOf_59 rfl ?_
        refine g_iload_n (pc := 60) F dX8_groupOf_60 rfl ?_
        refine g_iconst (pc := 61) (v := 1) F dX8_groupOf_61 (by decide) ?_
        refine g_isub (pc := 62) F dX8_groupOf_62 ?_
        refine g_stk (st' := [.int (nI 2), .int (nI gi), .ref (ad g 224)]) (by rw [hgx, hwq] <;> rfl) ?_
        refine g_callV (pc := 63) (rf2 := 0) (rl2 := 0) F cs_X8_68 k224 rfl (by decide) (by rfl) (by rfl) (Nat.le_of_ble_eq_true (by rfl)) (by decide) dX8_groupOf_63 (c_X8_ofGroup _ g _ gi (by omega) 2 (by decide)) (fun v M2 hz => ?_)
        obtain ⟨rfl, h2⟩ := hz
        rw [h2]
        refine g_iret (pc := 66) F r dX8_groupOf_66 ?_
        have e : oGroupOf (M 225) x w = M 225 (94 + 4 * gi + 2) := by
          unfold oGroupOf
          rw [if_pos ⟨b2i_1 c5, b2i_1 c14⟩, hgx, ixN_nI (by omega), hwq, ixN_nI (by decide)]
          rfl
        rw [e]
        exact ⟨rfl, rfl⟩
      | 4, _, hwq =>
        refine g_tableIn (pc := 21) (tgt := 58) F dX8_groupOf_21 (by rw [hwq]; decide) (by rw [hwq]; decide) (by rw [hwq]; rfl) (by decide) ?_
        refine g_aload_n (pc := 58) F dX8_groupOf_58 rfl ?_
        refine g_iload_n (pc := 59) F dX8_groupOf_59 rfl ?_
        refine g_iload_n (pc := 60) F dX8_groupOf_60 rfl ?_
        refine g_iconst (pc := 61) (v := 1) F dX8_groupOf_61 (by decide) ?_
        refine g_isub (pc := 62) F dX8_groupOf_62 ?_
        refine g_stk (st' := [.int (nI 3), .int (nI gi), .ref (ad g 224)]) (by rw [hgx, hwq] <;> rfl) ?_
        refine g_callV (pc := 63) (rf2 := 0) (rl2 := 0) F cs_X8_68 k224 rfl (by decide) (by rfl) (by rfl) (Nat.le_of_ble_eq_true (by rfl)) (by decide) dX8_groupOf_63 (c_X8_ofGroup _ g _ gi (by omega) 3 (by decide)) (fun v M2 hz => ?_)
        obtain ⟨rfl, h2⟩ := hz
        rw [h2]
        refine g_iret (pc := 66) F r dX8_groupOf_66 ?_
        have e : oGroupOf (M 225) x w = M 225 (94 + 4 * gi + 3) := by
          unfold oGroupOf
          rw [if_pos ⟨b2i_1 c5, b2i_1 c14⟩, hgx, ixN_nI (by omega), hwq, ixN_nI (by decide)]
          rfl
        rw [e]
        exact ⟨rfl, rfl⟩
      | 5, _, hwq =>
        refine g_tableIn (pc := 21) (tgt := 67) F dX8_groupOf_21 (by rw [hwq]; decide) (by rw [hwq]; decide) (by rw [hwq]; rfl) (by decide) ?_
        refine g_aload_n (pc := 67) F dX8_groupOf_67 rfl ?_
        refine g_iload_n (pc := 68) F dX8_groupOf_68 rfl ?_
        refine g_stk (st' := [.int (nI gi), .ref (ad g 224)]) (by rw [hgx] <;> rfl) ?_
        refine g_callV (pc := 69) (rf2 := 2) (rl2 := 44) F cs_X8_134 k224 rfl (by decide) (by rfl) (by rfl) (Nat.le_of_ble_eq_true (by rfl)) (by decide) dX8_groupOf_69 (c_X8_sumIn _ g _ t hi gi (by omega) z hz6 g2) (fun v M2 hz => ?_)
        obtain ⟨rfl, h2⟩ := hz
        rw [h2]
        refine g_iret (pc := 72) F r dX8_groupOf_72 ?_
        have e : oGroupOf (M 225) x w = sumW (M 225) (nI z) 9 (cn (M 225)) := by
          unfold oGroupOf
          rw [if_pos ⟨b2i_1 c5, b2i_1 c14⟩, hgx, ixN_nI (by omega), hwq, ixN_nI (by decide)]
          show sumW (M 225) (gw (M 225) gi 1) 9 (cn (M 225)) = _
          rw [g2]
        rw [e]
        exact ⟨rfl, rfl⟩
    · skip
      refine g_ldc (pc := 17) F wk_X8_88 dX8_groupOf_17 ?_
      refine g_iret (pc := 19) F r dX8_groupOf_19 ?_
      have e : oGroupOf (M 225) x w = -1000001 := if_neg (fun q => b2i_0 c14 q.2)
      rw [e]
      exact ⟨rfl, rfl⟩

