/-! the calls that only tell -/
def oNext (S : SV) (p : Int32) : Int32 := if p < 0 then -1000001 else nextW S p (cn S)
def oClockOf (S : SV) (x w : Int32) : Int32 := if inC S x ∧ (0 ≤ w ∧ w ≤ 13) then wv (cw S (ixN x)) (ixN w) else -1000001
def grW (S : SV) (gi : Nat) : Nat → Int32
  | 0 => gw S gi 0
  | 1 => gw S gi 1
  | 2 => leastW S (gw S gi 1) (cn S)
  | 3 => gw S gi 2
  | 4 => gw S gi 3
  | _ => sumW S (gw S gi 1) 9 (cn S)
def oGroupOf (S : SV) (x w : Int32) : Int32 := if inG S x ∧ (0 ≤ w ∧ w ≤ 5) then grW S (ixN x) (ixN w) else -1000001
def cntW (A : AS) : Nat → Int32
  | 0 => A.1 0
  | 1 => A.1 1
  | 2 => A.1 2
  | 3 => A.1 3
  | 4 => sumW A.1 63 8 (cn A.1)
  | 5 => sumW A.1 63 11 (cn A.1)
  | 6 => sumW A.1 63 12 (cn A.1)
  | 7 => aboutW A.1 (cn A.1)
  | 8 => oldestW A.1 (cn A.1)
  | 9 => nI A.2.2.1
  | _ => nI A.2.2.2.2
def oCount (A : AS) (w : Int32) : Int32 := if 0 ≤ w ∧ w ≤ 10 then cntW A (ixN w) else -1000001
theorem i_le_of {w : Int32} {n : Nat} (h0 : ¬ w < 0) (h1 : w ≤ nI n) (hn : n < 2147483648) : ∃ q, q ≤ n ∧ w = nI q := by
  obtain ⟨q, hq, rfl⟩ := nI_of h0
  exact ⟨q, (nI_leI hq hn).mp h1, rfl⟩
theorem CAs.fr {M : Mem} {A : AS} {sg : Nat → Nat} (h : CAs M A sg) : CA M A := ⟨sg, h⟩
set_option maxHeartbeats 4000000 in
set_option maxRecDepth 100000 in
theorem c_X7_next (l : Launch) (g : Gm) (M : Mem) (A : AS) (hA : CA M A) (hI : AI A) (x : Int32) : Cn l yX7_next cX7_next 2 (some .int) 2 47 g [.ref (ad g 0), .int x] M (fun v M2 => v = some (.int (oNext A.1 x)) ∧ M2 = M) := by
  refine Cn.intro (lv0 := [some (.ref (ad g 0)), some (.int x)]) 0 (by decide +kernel) (Nat.le_of_ble_eq_true rfl) rfl (fun X F r => ?_)
  obtain ⟨sg, hA1, hA2, hA3, hA4, hA5, hA6⟩ := hA
  obtain ⟨t, ht, hi⟩ := hI.1
  have k0 := kd0
  have k63 := kd63
  have k1 := kd1
  have hn := hi.cn_le
  have hm := hi.gn_le
  have k32 := kd32
  have k220 := kd220
  refine g_iload_n (pc := 0) F dX7_next_0 rfl ?_
  refine g_if_ge (pc := 1) (tgt := 7) F dX7_next_1 (by decide) (fun c1 => ?_) (fun c1 => ?_)
  · refine g_aload_n (pc := 7) F dX7_next_7 rfl ?_
    refine g_getr (pc := 8) F fl_X7_12 (by assumption) rfl dX7_next_8 ?_
    refine g_iload_n (pc := 11) F dX7_next_11 rfl ?_
    refine g_callV (pc := 12) (rf2 := 1) (rl2 := 25) F cs_X7_131 k1 rfl (by decide) (by rfl) (by rfl) (Nat.le_of_ble_eq_true (by rfl)) (by decide) dX7_next_12 (c_X3_clockInPlace _ g _ 1 k1 A.1 t hA1 hi x) (fun v M2 hz => ?_)
    obtain ⟨rfl, h2⟩ := hz
    rw [h2]
    refine g_iret (pc := 15) F r dX7_next_15 ?_
    exact ⟨by rw [show oNext A.1 x = nextW A.1 x (cn A.1) from if_neg (Int32.not_lt.mpr c1)], rfl⟩
  · refine g_ldc (pc := 4) F wk_X7_77 dX7_next_4 ?_
    refine g_iret (pc := 6) F r dX7_next_6 ?_
    exact ⟨by rw [show oNext A.1 x = -1000001 from if_pos (Int32.not_le.mp c1)], rfl⟩

set_option maxHeartbeats 4000000 in
set_option maxRecDepth 100000 in
theorem c_X7_clockOf (l : Launch) (g : Gm) (M : Mem) (A : AS) (hA : CA M A) (hI : AI A) (x w : Int32) : Cn l yX7_clockOf cX7_clockOf 4 (some .int) 2 41 g [.ref (ad g 0), .int x, .int w] M (fun v M2 => v = some (.int (oClockOf A.1 x w)) ∧ M2 = M) := by
  refine Cn.intro (lv0 := [some (.ref (ad g 0)), some (.int x), some (.int w), none]) 1 (by decide +kernel) (Nat.le_of_ble_eq_true rfl) rfl (fun X F r => ?_)
  obtain ⟨sg, hA1, hA2, hA3, hA4, hA5, hA6⟩ := hA
  obtain ⟨t, ht, hi⟩ := hI.1
  have k0 := kd0
  have k63 := kd63
  have k1 := kd1
  have hn := hi.cn_le
  have hm := hi.gn_le
  have k32 := kd32
  have k220 := kd220
  refine g_aload_n (pc := 0) F dX7_clockOf_0 rfl ?_
  refine g_getr (pc := 1) F fl_X7_12 (by assumption) rfl dX7_clockOf_1 ?_
  refine g_iload_n (pc := 4) F dX7_clockOf_4 rfl ?_
  refine g_callV (pc := 5) (rf2 := 0) (rl2 := 0) F cs_X7_73 k1 rfl (by decide) (by rfl) (by rfl) (Nat.le_of_ble_eq_true (by rfl)) (by decide) dX7_clockOf_5 (c_X3_clockAt _ g _ 1 k1 (cn A.1) hn.1 (hA1.1.trans hn.2) x) (fun v M2 hz => ?_)
  obtain ⟨h2, hz⟩ := hz
  rw [h2]
  rcases hz with ⟨i, hi6, hx, rfl⟩ | ⟨hno, rfl⟩
  · have hkc : kd (1 + 3 + 4 * i) = 0 := (kd_hall k1).2.2.1 i (by omega)
    refine g_astore_n (pc := 8) F dX7_clockOf_8 (by decide) rfl ?_
    refine g_aload_n (pc := 9) F dX7_clockOf_9 rfl ?_
    refine g_ifnull (pc := 10) F dX7_clockOf_10 ?_
    refine g_iload_n (pc := 13) F dX7_clockOf_13 rfl ?_
    refine g_if_lt (pc := 14) (tgt := 23) F dX7_clockOf_14 (by decide) (fun c14 => ?_) (fun c14 => ?_)
    · refine g_ldc (pc := 23) F wk_X7_77 dX7_clockOf_23 ?_
      refine g_iret (pc := 25) F r dX7_clockOf_25 ?_
      have e : oClockOf A.1 x w = -1000001 := if_neg (fun q => Int32.not_lt.mpr q.2.1 c14)
      rw [e]
      exact ⟨rfl, rfl⟩
    · refine g_iload_n (pc := 17) F dX7_clockOf_17 rfl ?_
      refine g_bipush (pc := 18) (v := 13) F dX7_clockOf_18 (by decide) ?_
      refine g_icmp_le (pc := 20) (tgt := 26) F dX7_clockOf_20 (by decide) (fun c20 => ?_) (fun c20 => ?_)
      · obtain ⟨q, hq, hwq⟩ := i_le_of (n := 13) c14 c20 (by decide)
        refine g_aload_n (pc := 26) F dX7_clockOf_26 rfl ?_
        refine g_iload_n (pc := 27) F dX7_clockOf_27 rfl ?_
        refine g_stk (st' := [.int (nI q), .ref (ad g (1 + 3 + 4 * i))]) (by rw [hwq] <;> rfl) ?_
        refine g_callV (pc := 28) (rf2 := 1) (rl2 := 20) F cs_X7_78 hkc rfl (by decide) (by rfl) (by rfl) (Nat.le_of_ble_eq_true (by rfl)) (by decide) dX7_clockOf_28 (c_X0_tell _ g _ (1 + 3 + 4 * i) hkc q (by omega)) (fun v M2 hz => ?_)
        obtain ⟨rfl, h3⟩ := hz
        rw [h3]
        refine g_iret (pc := 31) F r dX7_clockOf_31 ?_
        have e : oClockOf A.1 x w = wv (cw A.1 i) q := by
          unfold oClockOf
          rw [if_pos ⟨by rw [hx]; exact inC_of hi hi6, Int32.not_lt.mp c14, c20⟩, hx, ixN_nI (by omega), hwq, ixN_nI (by omega)]
        rw [e, ← tellV_wv (hA1.2.2.2.2.1 i hi6) q (by omega)]
        exact ⟨rfl, rfl⟩
      · refine g_ldc (pc := 23) F wk_X7_77 dX7_clockOf_23 ?_
        refine g_iret (pc := 25) F r dX7_clockOf_25 ?_
        have e : oClockOf A.1 x w = -1000001 := if_neg (fun q => c20 q.2.2)
        rw [e]
        exact ⟨rfl, rfl⟩
  · refine g_astore_nN (pc := 8) F dX7_clockOf_8 (by decide) rfl ?_
    refine g_aload_nN (pc := 9) F dX7_clockOf_9 rfl ?_
    refine g_ifnullN (pc := 10) (tgt := 23) F dX7_clockOf_10 (by decide) ?_
    refine g_ldc (pc := 23) F wk_X7_77 dX7_clockOf_23 ?_
    refine g_iret (pc := 25) F r dX7_clockOf_25 ?_
    have e : oClockOf A.1 x w = -1000001 := if_neg (fun q => inC_not hi hno q.1)
    rw [e]
    exact ⟨rfl, rfl⟩

set_option maxHeartbeats 4000000 in
set_option maxRecDepth 100000 in
theorem c_X7_groupOf (l : Launch) (g : Gm) (M : Mem) (A : AS) (hA : CA M A) (hI : AI A) (x w : Int32) : Cn l yX7_groupOf cX7_groupOf 4 (some .int) 3 65 g [.ref (ad g 0), .int x, .int w] M (fun v M2 => v = some (.int (oGroupOf A.1 x w)) ∧ M2 = M) := by
  refine Cn.intro (lv0 := [some (.ref (ad g 0)), some (.int x), some (.int w), none]) 1 (by decide +kernel) (Nat.le_of_ble_eq_true rfl) rfl (fun X F r => ?_)
  obtain ⟨sg, hA1, hA2, hA3, hA4, hA5, hA6⟩ := hA
  obtain ⟨t, ht, hi⟩ := hI.1
  have k0 := kd0
  have k63 := kd63
  have k1 := kd1
  have hn := hi.cn_le
  have hm := hi.gn_le
  have k32 := kd32
  have k220 := kd220
  refine g_aload_n (pc := 0) F dX7_groupOf_0 rfl ?_
  refine g_getr (pc := 1) F fl_X7_12 (by assumption) rfl dX7_groupOf_1 ?_
  refine g_iload_n (pc := 4) F dX7_groupOf_4 rfl ?_
  refine g_callV (pc := 5) (rf2 := 0) (rl2 := 0) F cs_X7_108 k1 rfl (by decide) (by rfl) (by rfl) (Nat.le_of_ble_eq_true (by rfl)) (by decide) dX7_groupOf_5 (c_X3_groupAt _ g _ 1 k1 (gn A.1) hm.1 (hA1.2.1.trans hm.2) x) (fun v M2 hz => ?_)
  obtain ⟨h2, hz⟩ := hz
  rw [h2]
  rcases hz with ⟨gi, hg6, hgx, rfl⟩ | ⟨hnoG, rfl⟩
  · have hkg : kd (1 + 27 + gi) = 2 := (kd_hall k1).2.2.2 gi (by omega)
    have hG := hA1.2.2.2.2.2 gi hg6
    refine g_astore_n (pc := 8) F dX7_groupOf_8 (by decide) rfl ?_
    refine g_aload_n (pc := 9) F dX7_groupOf_9 rfl ?_
    refine g_ifnull (pc := 10) F dX7_groupOf_10 ?_
    refine g_iload_n (pc := 13) F dX7_groupOf_13 rfl ?_
    refine g_if_lt (pc := 14) (tgt := 22) F dX7_groupOf_14 (by decide) (fun c14 => ?_) (fun c14 => ?_)
    · refine g_ldc (pc := 22) F wk_X7_77 dX7_groupOf_22 ?_
      refine g_iret (pc := 24) F r dX7_groupOf_24 ?_
      have e : oGroupOf A.1 x w = -1000001 := if_neg (fun q => Int32.not_lt.mpr q.2.1 c14)
      rw [e]
      exact ⟨rfl, rfl⟩
    · refine g_iload_n (pc := 17) F dX7_groupOf_17 rfl ?_
      refine g_iconst (pc := 18) (v := 5) F dX7_groupOf_18 (by decide) ?_
      refine g_icmp_le (pc := 19) (tgt := 25) F dX7_groupOf_19 (by decide) (fun c19 => ?_) (fun c19 => ?_)
      · obtain ⟨q, hq, hwq⟩ := i_le_of (n := 5) c14 c19 (by decide)
        refine g_iload_n (pc := 25) F dX7_groupOf_25 rfl ?_
        match q, hq, hwq with
        | 0, _, hwq =>
          refine g_tableIn (pc := 26) (tgt := 60) F dX7_groupOf_26 (by rw [hwq]; decide) (by rw [hwq]; decide) (by rw [hwq]; rfl) (by decide) ?_
          refine g_aload_n (pc := 60) F dX7_groupOf_60 rfl ?_
          refine g_geti (pc := 61) F fl_X7_112 (by assumption) rfl dX7_groupOf_61 ?_
          refine g_iret (pc := 64) F r dX7_groupOf_64 ?_
          have e : oGroupOf A.1 x w = gw A.1 gi 0 := by
            unfold oGroupOf
            rw [if_pos ⟨by rw [hgx]; exact inG_of hi hg6, Int32.not_lt.mp c14, c19⟩, hgx, ixN_nI (by omega), hwq, ixN_nI (by decide)]
            rfl
          rw [e]
          exact ⟨by rw [hG 0 (by decide)], rfl⟩
        | 1, _, hwq =>
          refine g_tableIn (pc := 26) (tgt := 65) F dX7_groupOf_26 (by rw [hwq]; decide) (by rw [hwq]; decide) (by rw [hwq]; rfl) (by decide) ?_
          refine g_aload_n (pc := 65) F dX7_groupOf_65 rfl ?_
          refine g_geti (pc := 66) F fl_X7_117 (by assumption) rfl dX7_groupOf_66 ?_
          refine g_iret (pc := 69) F r dX7_groupOf_69 ?_
          have e : oGroupOf A.1 x w = gw A.1 gi 1 := by
            unfold oGroupOf
            rw [if_pos ⟨by rw [hgx]; exact inG_of hi hg6, Int32.not_lt.mp c14, c19⟩, hgx, ixN_nI (by omega), hwq, ixN_nI (by decide)]
            rfl
          rw [e]
          exact ⟨by rw [hG 1 (by decide)], rfl⟩
        | 2, _, hwq =>
          refine g_tableIn (pc := 26) (tgt := 70) F dX7_groupOf_26 (by rw [hwq]; decide) (by rw [hwq]; decide) (by rw [hwq]; rfl) (by decide) ?_
          refine g_aload_n (pc := 70) F dX7_groupOf_70 rfl ?_
          refine g_getr (pc := 71) F fl_X7_12 (by assumption) rfl dX7_groupOf_71 ?_
          refine g_aload_n (pc := 74) F dX7_groupOf_74 rfl ?_
          refine g_geti (pc := 75) F fl_X7_117 (by assumption) rfl dX7_groupOf_75 ?_
          refine g_stk (st' := [.int (gw A.1 gi 1), .ref (ad g 1)]) (by rw [hG 1 (by decide)] <;> rfl) ?_
          refine g_callV (pc := 78) (rf2 := 0) (rl2 := 0) F cs_X7_120 k1 rfl (by decide) (by rfl) (by rfl) (Nat.le_of_ble_eq_true (by rfl)) (by decide) dX7_groupOf_78 (c_X3_leastRest _ g _ 1 k1 A.1 t hA1 hi (gw A.1 gi 1)) (fun v M2 hz => ?_)
          obtain ⟨rfl, h3⟩ := hz
          rw [h3]
          refine g_iret (pc := 81) F r dX7_groupOf_81 ?_
          have e : oGroupOf A.1 x w = leastW A.1 (gw A.1 gi 1) (cn A.1) := by
            unfold oGroupOf
            rw [if_pos ⟨by rw [hgx]; exact inG_of hi hg6, Int32.not_lt.mp c14, c19⟩, hgx, ixN_nI (by omega), hwq, ixN_nI (by decide)]
            rfl
          rw [e]
          exact ⟨rfl, rfl⟩
        | 3, _, hwq =>
          refine g_tableIn (pc := 26) (tgt := 82) F dX7_groupOf_26 (by rw [hwq]; decide) (by rw [hwq]; decide) (by rw [hwq]; rfl) (by decide) ?_
          refine g_aload_n (pc := 82) F dX7_groupOf_82 rfl ?_
          refine g_geti (pc := 83) F fl_X7_123 (by assumption) rfl dX7_groupOf_83 ?_
          refine g_iret (pc := 86) F r dX7_groupOf_86 ?_
          have e : oGroupOf A.1 x w = gw A.1 gi 2 := by
            unfold oGroupOf
            rw [if_pos ⟨by rw [hgx]; exact inG_of hi hg6, Int32.not_lt.mp c14, c19⟩, hgx, ixN_nI (by omega), hwq, ixN_nI (by decide)]
            rfl
          rw [e]
          exact ⟨by rw [hG 2 (by decide)], rfl⟩
        | 4, _, hwq =>
          refine g_tableIn (pc := 26) (tgt := 87) F dX7_groupOf_26 (by rw [hwq]; decide) (by rw [hwq]; decide) (by rw [hwq]; rfl) (by decide) ?_
          refine g_aload_n (pc := 87) F dX7_groupOf_87 rfl ?_
          refine g_geti (pc := 88) F fl_X7_125 (by assumption) rfl dX7_groupOf_88 ?_
          refine g_iret (pc := 91) F r dX7_groupOf_91 ?_
          have e : oGroupOf A.1 x w = gw A.1 gi 3 := by
            unfold oGroupOf
            rw [if_pos ⟨by rw [hgx]; exact inG_of hi hg6, Int32.not_lt.mp c14, c19⟩, hgx, ixN_nI (by omega), hwq, ixN_nI (by decide)]
            rfl
          rw [e]
          exact ⟨by rw [hG 3 (by decide)], rfl⟩
        | 5, _, hwq =>
          refine g_tableOut (pc := 26) (tgt := 92) F dX7_groupOf_26 (by rw [hwq]; decide) (by decide) ?_
          refine g_aload_n (pc := 92) F dX7_groupOf_92 rfl ?_
          refine g_getr (pc := 93) F fl_X7_12 (by assumption) rfl dX7_groupOf_93 ?_
          refine g_aload_n (pc := 96) F dX7_groupOf_96 rfl ?_
          refine g_geti (pc := 97) F fl_X7_117 (by assumption) rfl dX7_groupOf_97 ?_
          refine g_bipush (pc := 100) (v := 9) F dX7_groupOf_100 (by decide) ?_
          refine g_stk (st' := [.int (nI 9), .int (gw A.1 gi 1), .ref (ad g 1)]) (by rw [hG 1 (by decide)] <;> rfl) ?_
          refine g_callV (pc := 102) (rf2 := 2) (rl2 := 41) F cs_X7_128 k1 rfl (by decide) (by rfl) (by rfl) (Nat.le_of_ble_eq_true (by rfl)) (by decide) dX7_groupOf_102 (c_X3_sumOver _ g _ 1 k1 A.1 t hA1 hi (gw A.1 gi 1) 9 (by decide)) (fun v M2 hz => ?_)
          obtain ⟨rfl, h3⟩ := hz
          rw [h3]
          refine g_iret (pc := 105) F r dX7_groupOf_105 ?_
          have e : oGroupOf A.1 x w = sumW A.1 (gw A.1 gi 1) 9 (cn A.1) := by
            unfold oGroupOf
            rw [if_pos ⟨by rw [hgx]; exact inG_of hi hg6, Int32.not_lt.mp c14, c19⟩, hgx, ixN_nI (by omega), hwq, ixN_nI (by decide)]
            rfl
          rw [e]
          exact ⟨rfl, rfl⟩
      · refine g_ldc (pc := 22) F wk_X7_77 dX7_groupOf_22 ?_
        refine g_iret (pc := 24) F r dX7_groupOf_24 ?_
        have e : oGroupOf A.1 x w = -1000001 := if_neg (fun q => c19 q.2.2)
        rw [e]
        exact ⟨rfl, rfl⟩
  · refine g_astore_nN (pc := 8) F dX7_groupOf_8 (by decide) rfl ?_
    refine g_aload_nN (pc := 9) F dX7_groupOf_9 rfl ?_
    refine g_ifnullN (pc := 10) (tgt := 22) F dX7_groupOf_10 (by decide) ?_
    refine g_ldc (pc := 22) F wk_X7_77 dX7_groupOf_22 ?_
    refine g_iret (pc := 24) F r dX7_groupOf_24 ?_
    have e : oGroupOf A.1 x w = -1000001 := if_neg (fun q => inG_not hi hnoG q.1)
    rw [e]
    exact ⟨rfl, rfl⟩

set_option maxHeartbeats 4000000 in
set_option maxRecDepth 100000 in
theorem c_X7_count (l : Launch) (g : Gm) (M : Mem) (A : AS) (hA : CA M A) (hI : AI A) (w : Int32) : Cn l yX7_count cX7_count 2 (some .int) 3 65 g [.ref (ad g 0), .int w] M (fun v M2 => v = some (.int (oCount A w)) ∧ M2 = M) := by
  refine Cn.intro (lv0 := [some (.ref (ad g 0)), some (.int w)]) 0 (by decide +kernel) (Nat.le_of_ble_eq_true rfl) rfl (fun X F r => ?_)
  obtain ⟨sg, hA1, hA2, hA3, hA4, hA5, hA6⟩ := hA
  obtain ⟨t, ht, hi⟩ := hI.1
  have k0 := kd0
  have k63 := kd63
  have k1 := kd1
  have hn := hi.cn_le
  have hm := hi.gn_le
  have k32 := kd32
  have k220 := kd220
  refine g_iload_n (pc := 0) F dX7_count_0 rfl ?_
  by_cases hw : 0 ≤ w ∧ w ≤ 10
  · obtain ⟨q, hq, hwq⟩ := i_le_of (n := 10) (Int32.not_lt.mpr hw.1) hw.2 (by decide)
    match q, hq, hwq with
    | 0, _, hwq =>
      refine g_tableIn (pc := 1) (tgt := 60) F dX7_count_1 (by rw [hwq]; decide) (by rw [hwq]; decide) (by rw [hwq]; rfl) (by decide) ?_
      refine g_aload_n (pc := 60) F dX7_count_60 rfl ?_
      refine g_getr (pc := 61) F fl_X7_12 (by assumption) rfl dX7_count_61 ?_
      refine g_geti (pc := 64) F fl_X7_155 (by assumption) rfl dX7_count_64 ?_
      refine g_iret (pc := 67) F r dX7_count_67 ?_
      have e : oCount A w = A.1 0 := by
        unfold oCount
        rw [if_pos hw, hwq, ixN_nI (by decide)]
        rfl
      rw [e]
      exact ⟨by rw [hA1.1], rfl⟩
    | 1, _, hwq =>
      refine g_tableIn (pc := 1) (tgt := 68) F dX7_count_1 (by rw [hwq]; decide) (by rw [hwq]; decide) (by rw [hwq]; rfl) (by decide) ?_
      refine g_aload_n (pc := 68) F dX7_count_68 rfl ?_
      refine g_getr (pc := 69) F fl_X7_12 (by assumption) rfl dX7_count_69 ?_
      refine g_geti (pc := 72) F fl_X7_158 (by assumption) rfl dX7_count_72 ?_
      refine g_iret (pc := 75) F r dX7_count_75 ?_
      have e : oCount A w = A.1 1 := by
        unfold oCount
        rw [if_pos hw, hwq, ixN_nI (by decide)]
        rfl
      rw [e]
      exact ⟨by rw [hA1.2.1], rfl⟩
    | 2, _, hwq =>
      refine g_tableIn (pc := 1) (tgt := 76) F dX7_count_1 (by rw [hwq]; decide) (by rw [hwq]; decide) (by rw [hwq]; rfl) (by decide) ?_
      refine g_aload_n (pc := 76) F dX7_count_76 rfl ?_
      refine g_getr (pc := 77) F fl_X7_12 (by assumption) rfl dX7_count_77 ?_
      refine g_geti (pc := 80) F fl_X7_161 (by assumption) rfl dX7_count_80 ?_
      refine g_iret (pc := 83) F r dX7_count_83 ?_
      have e : oCount A w = A.1 2 := by
        unfold oCount
        rw [if_pos hw, hwq, ixN_nI (by decide)]
        rfl
      rw [e]
      exact ⟨by rw [hA1.2.2.1], rfl⟩
    | 3, _, hwq =>
      refine g_tableIn (pc := 1) (tgt := 84) F dX7_count_1 (by rw [hwq]; decide) (by rw [hwq]; decide) (by rw [hwq]; rfl) (by decide) ?_
      refine g_aload_n (pc := 84) F dX7_count_84 rfl ?_
      refine g_getr (pc := 85) F fl_X7_12 (by assumption) rfl dX7_count_85 ?_
      refine g_geti (pc := 88) F fl_X7_164 (by assumption) rfl dX7_count_88 ?_
      refine g_iret (pc := 91) F r dX7_count_91 ?_
      have e : oCount A w = A.1 3 := by
        unfold oCount
        rw [if_pos hw, hwq, ixN_nI (by decide)]
        rfl
      rw [e]
      exact ⟨by rw [hA1.2.2.2.1], rfl⟩
    | 4, _, hwq =>
      refine g_tableIn (pc := 1) (tgt := 92) F dX7_count_1 (by rw [hwq]; decide) (by rw [hwq]; decide) (by rw [hwq]; rfl) (by decide) ?_
      refine g_aload_n (pc := 92) F dX7_count_92 rfl ?_
      refine g_getr (pc := 93) F fl_X7_12 (by assumption) rfl dX7_count_93 ?_
      refine g_bipush (pc := 96) (v := 63) F dX7_count_96 (by decide) ?_
      refine g_bipush (pc := 98) (v := 8) F dX7_count_98 (by decide) ?_
      refine g_stk (st' := [.int (nI 8), .int 63, .ref (ad g 1)]) (by rfl) ?_
      refine g_callV (pc := 100) (rf2 := 2) (rl2 := 41) F cs_X7_128 k1 rfl (by decide) (by rfl) (by rfl) (Nat.le_of_ble_eq_true (by rfl)) (by decide) dX7_count_100 (c_X3_sumOver _ g _ 1 k1 A.1 t hA1 hi 63 8 (by decide)) (fun v M2 hz => ?_)
      obtain ⟨rfl, h2⟩ := hz
      rw [h2]
      refine g_iret (pc := 103) F r dX7_count_103 ?_
      have e : oCount A w = sumW A.1 63 8 (cn A.1) := by
        unfold oCount
        rw [if_pos hw, hwq, ixN_nI (by decide)]
        rfl
      rw [e]
      exact ⟨rfl, rfl⟩
    | 5, _, hwq =>
      refine g_tableIn (pc := 1) (tgt := 104) F dX7_count_1 (by rw [hwq]; decide) (by rw [hwq]; decide) (by rw [hwq]; rfl) (by decide) ?_
      refine g_aload_n (pc := 104) F dX7_count_104 rfl ?_
      refine g_getr (pc := 105) F fl_X7_12 (by assumption) rfl dX7_count_105 ?_
      refine g_bipush (pc := 108) (v := 63) F dX7_count_108 (by decide) ?_
      refine g_bipush (pc := 110) (v := 11) F dX7_count_110 (by decide) ?_
      refine g_stk (st' := [.int (nI 11), .int 63, .ref (ad g 1)]) (by rfl) ?_
      refine g_callV (pc := 112) (rf2 := 2) (rl2 := 41) F cs_X7_128 k1 rfl (by decide) (by rfl) (by rfl) (Nat.le_of_ble_eq_true (by rfl)) (by decide) dX7_count_112 (c_X3_sumOver _ g _ 1 k1 A.1 t hA1 hi 63 11 (by decide)) (fun v M2 hz => ?_)
      obtain ⟨rfl, h2⟩ := hz
      rw [h2]
      refine g_iret (pc := 115) F r dX7_count_115 ?_
      have e : oCount A w = sumW A.1 63 11 (cn A.1) := by
        unfold oCount
        rw [if_pos hw, hwq, ixN_nI (by decide)]
        rfl
      rw [e]
      exact ⟨rfl, rfl⟩
    | 6, _, hwq =>
      refine g_tableIn (pc := 1) (tgt := 116) F dX7_count_1 (by rw [hwq]; decide) (by rw [hwq]; decide) (by rw [hwq]; rfl) (by decide) ?_
      refine g_aload_n (pc := 116) F dX7_count_116 rfl ?_
      refine g_getr (pc := 117) F fl_X7_12 (by assumption) rfl dX7_count_117 ?_
      refine g_bipush (pc := 120) (v := 63) F dX7_count_120 (by decide) ?_
      refine g_bipush (pc := 122) (v := 12) F dX7_count_122 (by decide) ?_
      refine g_stk (st' := [.int (nI 12), .int 63, .ref (ad g 1)]) (by rfl) ?_
      refine g_callV (pc := 124) (rf2 := 2) (rl2 := 41) F cs_X7_128 k1 rfl (by decide) (by rfl) (by rfl) (Nat.le_of_ble_eq_true (by rfl)) (by decide) dX7_count_124 (c_X3_sumOver _ g _ 1 k1 A.1 t hA1 hi 63 12 (by decide)) (fun v M2 hz => ?_)
      obtain ⟨rfl, h2⟩ := hz
      rw [h2]
      refine g_iret (pc := 127) F r dX7_count_127 ?_
      have e : oCount A w = sumW A.1 63 12 (cn A.1) := by
        unfold oCount
        rw [if_pos hw, hwq, ixN_nI (by decide)]
        rfl
      rw [e]
      exact ⟨rfl, rfl⟩
    | 7, _, hwq =>
      refine g_tableIn (pc := 1) (tgt := 128) F dX7_count_1 (by rw [hwq]; decide) (by rw [hwq]; decide) (by rw [hwq]; rfl) (by decide) ?_
      refine g_aload_n (pc := 128) F dX7_count_128 rfl ?_
      refine g_getr (pc := 129) F fl_X7_12 (by assumption) rfl dX7_count_129 ?_
      refine g_callV (pc := 132) (rf2 := 0) (rl2 := 0) F cs_X7_167 k1 rfl (by decide) (by rfl) (by rfl) (Nat.le_of_ble_eq_true (by rfl)) (by decide) dX7_count_132 (c_X3_aboutToTell _ g _ 1 k1 A.1 t hA1 hi) (fun v M2 hz => ?_)
      obtain ⟨rfl, h2⟩ := hz
      rw [h2]
      refine g_iret (pc := 135) F r dX7_count_135 ?_
      have e : oCount A w = aboutW A.1 (cn A.1) := by
        unfold oCount
        rw [if_pos hw, hwq, ixN_nI (by decide)]
        rfl
      rw [e]
      exact ⟨rfl, rfl⟩
    | 8, _, hwq =>
      refine g_tableIn (pc := 1) (tgt := 136) F dX7_count_1 (by rw [hwq]; decide) (by rw [hwq]; decide) (by rw [hwq]; rfl) (by decide) ?_
      refine g_aload_n (pc := 136) F dX7_count_136 rfl ?_
      refine g_getr (pc := 137) F fl_X7_12 (by assumption) rfl dX7_count_137 ?_
      refine g_callV (pc := 140) (rf2 := 1) (rl2 := 30) F cs_X7_170 k1 rfl (by decide) (by rfl) (by rfl) (Nat.le_of_ble_eq_true (by rfl)) (by decide) dX7_count_140 (c_X3_greatestAge _ g _ 1 k1 A.1 t hA1 hi) (fun v M2 hz => ?_)
      obtain ⟨rfl, h2⟩ := hz
      rw [h2]
      refine g_iret (pc := 143) F r dX7_count_143 ?_
      have e : oCount A w = oldestW A.1 (cn A.1) := by
        unfold oCount
        rw [if_pos hw, hwq, ixN_nI (by decide)]
        rfl
      rw [e]
      exact ⟨rfl, rfl⟩
    | 9, _, hwq =>
      refine g_tableIn (pc := 1) (tgt := 144) F dX7_count_1 (by rw [hwq]; decide) (by rw [hwq]; decide) (by rw [hwq]; rfl) (by decide) ?_
      refine g_aload_n (pc := 144) F dX7_count_144 rfl ?_
      refine g_getr (pc := 145) F fl_X7_22 (by assumption) rfl dX7_count_145 ?_
      refine g_geti (pc := 148) F fl_X7_173 (by assumption) rfl dX7_count_148 ?_
      refine g_iret (pc := 151) F r dX7_count_151 ?_
      have e : oCount A w = nI A.2.2.1 := by
        unfold oCount
        rw [if_pos hw, hwq, ixN_nI (by decide)]
        rfl
      rw [e]
      exact ⟨by rw [hA4], rfl⟩
    | 10, _, hwq =>
      refine g_tableIn (pc := 1) (tgt := 152) F dX7_count_1 (by rw [hwq]; decide) (by rw [hwq]; decide) (by rw [hwq]; rfl) (by decide) ?_
      refine g_aload_n (pc := 152) F dX7_count_152 rfl ?_
      refine g_getr (pc := 153) F fl_X7_29 (by assumption) rfl dX7_count_153 ?_
      refine g_geti (pc := 156) F fl_X7_176 (by assumption) rfl dX7_count_156 ?_
      refine g_iret (pc := 159) F r dX7_count_159 ?_
      have e : oCount A w = nI A.2.2.2.2 := by
        unfold oCount
        rw [if_pos hw, hwq, ixN_nI (by decide)]
        rfl
      rw [e]
      exact ⟨by rw [hA2.2.1], rfl⟩
  · refine g_tableOut (pc := 1) (tgt := 160) F dX7_count_1 (by
      have a0 : (0 : Int32).toInt = 0 := rfl
      have a1 : (10 : Int32).toInt = 10 := rfl
      rcases Int32.lt_or_le w 0 with h | h
      · have := Int32.lt_iff_toInt_lt.mp h
        omega
      · have := Int32.lt_iff_toInt_lt.mp (Int32.not_le.mp (fun q => hw ⟨h, q⟩))
        omega) (by decide) ?_
    refine g_ldc (pc := 160) F wk_X7_77 dX7_count_160 ?_
    refine g_iret (pc := 162) F r dX7_count_162 ?_
    have e : oCount A w = -1000001 := if_neg hw
    rw [e]
    exact ⟨rfl, rfl⟩
