/-! what would be: tried in the trial -/
def oWould (S : SV) (x k w : Int32) : Int32 := if (1 ≤ k ∧ k ≤ 200) ∧ (0 ≤ w ∧ w ≤ 3) ∧ inC S x then (if w = 0 then cw (endsN S (ixN k)).2 (ixN x) 7 else if w = 1 then cw (endsN S (ixN k)).2 (ixN x) 6 - cw (endsN S (ixN k)).2 (ixN x) 7 else if w = 2 then cw (endsN S (ixN k)).2 (ixN x) 8 - cw S (ixN x) 8 else cw (endsN S (ixN k)).2 (ixN x) 6) else -1000001
/-- the first tick, from the one behind 200 - n on, with which the group has met more -/
def meetW (S : SV) (gi : Nat) : Nat → Int32
  | 0 => -1000004
  | n + 1 => if gw S gi 3 < gw (endsN S (200 - n)).2 gi 3 then nI (200 - n) else meetW S gi n
def oMeets (S : SV) (x : Int32) : Int32 := if inG S x then meetW S (ixN x) 200 else -1000001
theorem endsN_cn {S : SV} {t : Nat} (hi : Inv S t) : ∀ k, t + k ≤ 100200 → cn (endsN S k).2 = cn S ∧ gn (endsN S k).2 = gn S := by
  intro k
  induction k with
  | zero => intro _; exact ⟨rfl, rfl⟩
  | succ k ih =>
    intro hk
    obtain ⟨-, -, a, b⟩ := ends_lo (endsN_inv hi k (by omega))
    obtain ⟨c, d⟩ := ih (by omega)
    exact ⟨a.trans c, b.trans d⟩
theorem frH_CA {M M2 : Mem} {A : AS} (hA : CA M A) (hI : AI A) (f : frH M M2 32) : CA M2 A ∧ frC M M2 := ⟨CA_frame hA hI (fun a ha => f a (by omega)), fun a ha => f a (by omega)⟩
set_option maxHeartbeats 4000000 in
set_option maxRecDepth 100000 in
theorem c_X7_would (l : Launch) (g : Gm) (M : Mem) (A : AS) (hA : CA M A) (hI : AI A) (x k w : Int32) : Cn l yX7_would cX7_would 7 (some .int) 3 83 g [.ref (ad g 0), .int x, .int k, .int w] M (fun v M2 => v = some (.int (oWould A.1 x k w)) ∧ CA M2 A ∧ frC M M2) := by
  refine Cn.intro (lv0 := [some (.ref (ad g 0)), some (.int x), some (.int k), some (.int w), none, none, none]) 3 (by decide +kernel) (Nat.le_of_ble_eq_true rfl) rfl (fun X F r => ?_)
  have hA0 := hA
  obtain ⟨sg, hA1, hA2, hA3, hA4, hA5, hA6⟩ := hA
  obtain ⟨t, ht, hi⟩ := hI.1
  have k0 := kd0
  have k63 := kd63
  have k1 := kd1
  have hn := hi.cn_le
  have hm := hi.gn_le
  have k32 := kd32
  have k220 := kd220
  refine g_iload_n (pc := 0) F dX7_would_0 rfl ?_
  refine g_iconst (pc := 1) (v := 1) F dX7_would_1 (by decide) ?_
  refine g_icmp_lt (pc := 2) (tgt := 21) F dX7_would_2 (by decide) (fun c2 => ?_) (fun c2 => ?_)
  · refine g_ldc (pc := 21) F wk_X7_77 dX7_would_21 ?_
    refine g_iret (pc := 23) F r dX7_would_23 ?_
    have e : oWould A.1 x k w = -1000001 := if_neg (fun q => Int32.not_lt.mpr q.1.1 c2)
    rw [e]
    exact ⟨rfl, hA0, frC.refl _⟩
  · refine g_iload_n (pc := 5) F dX7_would_5 rfl ?_
    refine g_sipush (pc := 6) (v := 200) F dX7_would_6 (by decide) ?_
    refine g_icmp_gt (pc := 9) (tgt := 21) F dX7_would_9 (by decide) (fun c9 => ?_) (fun c9 => ?_)
    · refine g_ldc (pc := 21) F wk_X7_77 dX7_would_21 ?_
      refine g_iret (pc := 23) F r dX7_would_23 ?_
      have e : oWould A.1 x k w = -1000001 := if_neg (fun q => Int32.not_lt.mpr q.1.2 c9)
      rw [e]
      exact ⟨rfl, hA0, frC.refl _⟩
    · refine g_iload_n (pc := 12) F dX7_would_12 rfl ?_
      refine g_if_lt (pc := 13) (tgt := 21) F dX7_would_13 (by decide) (fun c13 => ?_) (fun c13 => ?_)
      · refine g_ldc (pc := 21) F wk_X7_77 dX7_would_21 ?_
        refine g_iret (pc := 23) F r dX7_would_23 ?_
        have e : oWould A.1 x k w = -1000001 := if_neg (fun q => Int32.not_lt.mpr q.2.1.1 c13)
        rw [e]
        exact ⟨rfl, hA0, frC.refl _⟩
      · refine g_iload_n (pc := 16) F dX7_would_16 rfl ?_
        refine g_iconst (pc := 17) (v := 3) F dX7_would_17 (by decide) ?_
        refine g_icmp_le (pc := 18) (tgt := 24) F dX7_would_18 (by decide) (fun c18 => ?_) (fun c18 => ?_)
        · have hkP : 1 ≤ k ∧ k ≤ 200 := ⟨Int32.not_lt.mp c2, Int32.not_lt.mp c9⟩
          have hwP : 0 ≤ w ∧ w ≤ 3 := ⟨Int32.not_lt.mp c13, c18⟩
          obtain ⟨kn, kn1, kn2, hkn⟩ := ticksP_nI hkP
          obtain ⟨q, hq, hwq⟩ := i_le_of (n := 3) c13 c18 (by decide)
          refine g_aload_n (pc := 24) F dX7_would_24 rfl ?_
          refine g_getr (pc := 25) F fl_X7_16 (by assumption) rfl dX7_would_25 ?_
          refine g_aload_n (pc := 28) F dX7_would_28 rfl ?_
          refine g_getr (pc := 29) F fl_X7_12 (by assumption) rfl dX7_would_29 ?_
          refine g_callV (pc := 32) (rf2 := 2) (rl2 := 61) F cs_X7_134 k32 rfl (by decide) (by rfl) (by rfl) (Nat.le_of_ble_eq_true (by rfl)) (by decide) dX7_would_32 (c_X3_copyFrom _ g _ 32 1 k32 k1 (Or.inr (by decide)) A.1 t hA1 hi) (fun v M1 hz => ?_)
          obtain ⟨rfl, r1, f1⟩ := hz
          refine g_aload_n (pc := 35) F dX7_would_35 rfl ?_
          refine g_getr (pc := 36) F fl_X7_16 (by assumption) rfl dX7_would_36 ?_
          refine g_iload_n (pc := 39) F dX7_would_39 rfl ?_
          refine g_callV (pc := 40) (rf2 := 0) (rl2 := 0) F cs_X7_73 k32 rfl (by decide) (by rfl) (by rfl) (Nat.le_of_ble_eq_true (by rfl)) (by decide) dX7_would_40 (c_X3_clockAt _ g _ 32 k32 (cn A.1) hn.1 (r1.1.trans hn.2) x) (fun v M2 hz => ?_)
          obtain ⟨h2, hz⟩ := hz
          rw [h2]
          rcases hz with ⟨i, hi6, hx, rfl⟩ | ⟨hno, rfl⟩
          · have hkc : kd (32 + 3 + 4 * i) = 0 := (kd_hall k32).2.2.1 i (by omega)
            obtain ⟨hkc1, hkc2, hkc3⟩ := kd_clk hkc
            have hxP : inC A.1 x := by rw [hx]; exact inC_of hi hi6
            have hC := r1.2.2.2.2.1 i hi6
            refine g_astore (pc := 43) F dX7_would_43 (by decide) rfl ?_
            refine g_aload (pc := 45) F dX7_would_45 rfl ?_
            refine g_ifnonnull (pc := 47) (tgt := 53) F dX7_would_47 (by decide) ?_
            refine g_aload (pc := 53) F dX7_would_53 rfl ?_
            refine g_getr (pc := 55) F fl_X7_99 (by assumption) rfl dX7_would_55 ?_
            refine g_geti (pc := 58) F fl_X7_102 (by assumption) rfl dX7_would_58 ?_
            refine g_stk (st' := [.int (cw A.1 i 8)]) (by rw [hC.2.2.2.2.2.2.2.2.1] <;> rfl) ?_
            refine g_istore (pc := 61) F dX7_would_61 (by decide) rfl ?_
            refine g_iconst (pc := 63) (v := 0) F dX7_would_63 (by decide) ?_
            refine g_istore (pc := 64) F dX7_would_64 (by decide) rfl ?_
            have L : ∀ (n j : Nat) (y : Int32) (M2 : Mem), j + n = kn → y = nI j → HR M2 32 (endsN A.1 j).2 → frH M M2 32 → G X g 7 M2 66 [some (.ref (ad g 0)), some (.int x), some (.int k), some (.int w), some (.ref (ad g (32 + 3 + 4 * i))), some (.int (cw A.1 i 8)), some (.int y)] [] := by
              intro n
              induction n with
              | zero =>
                intro j y M2 hjn hy hr2 hf2
                obtain rfl : kn = j := by omega
                refine g_iload (pc := 66) F dX7_would_66 rfl ?_
                refine g_iload_n (pc := 68) F dX7_would_68 rfl ?_
                refine g_icmp_ge (pc := 69) (tgt := 86) F dX7_would_69 (by decide) (fun c69 => ?_) (fun c69 => ?_)
                · refine g_iload_n (pc := 86) F dX7_would_86 rfl ?_
                  have hB := hr2.2.2.2.2.1 i (by show i < cn (endsN A.1 kn).2; rw [(endsN_cn hi kn (by omega)).1]; exact hi6)
                  match q, hq, hwq with
                  | 0, _, hwq =>
                    refine g_tableIn (pc := 87) (tgt := 112) F dX7_would_87 (by rw [hwq]; decide) (by rw [hwq]; decide) (by rw [hwq]; rfl) (by decide) ?_
                    refine g_aload (pc := 112) F dX7_would_112 rfl ?_
                    refine g_callV (pc := 114) (rf2 := 0) (rl2 := 0) F cs_X7_141 hkc rfl (by decide) (by rfl) (by rfl) (Nat.le_of_ble_eq_true (by rfl)) (by decide) dX7_would_114 (c_X0_age _ g _ (32 + 3 + 4 * i) hkc) (fun v M2 hz => ?_)
                    obtain ⟨rfl, h3⟩ := hz
                    rw [h3]
                    refine g_iret (pc := 117) F r dX7_would_117 ?_
                    have e : oWould A.1 x k w = cw (endsN A.1 kn).2 i 7 := by
                      unfold oWould
                      rw [if_pos ⟨hkP, hwP, hxP⟩, hwq, if_pos (show nI 0 = 0 by decide), hkn, ixN_nI (by omega), hx, ixN_nI (by omega)]
                    rw [e]
                    exact ⟨by rw [hB.2.2.2.1, hB.2.2.2.2.1, i_sub_sub], frH_CA hA0 hI hf2⟩
                  | 1, _, hwq =>
                    refine g_tableIn (pc := 87) (tgt := 118) F dX7_would_87 (by rw [hwq]; decide) (by rw [hwq]; decide) (by rw [hwq]; rfl) (by decide) ?_
                    refine g_aload (pc := 118) F dX7_would_118 rfl ?_
                    refine g_geti (pc := 120) F fl_X7_144 (by assumption) rfl dX7_would_120 ?_
                    refine g_iret (pc := 123) F r dX7_would_123 ?_
                    have e : oWould A.1 x k w = cw (endsN A.1 kn).2 i 6 - cw (endsN A.1 kn).2 i 7 := by
                      unfold oWould
                      rw [if_pos ⟨hkP, hwP, hxP⟩, hwq, if_neg (by decide), if_pos (show nI 1 = 1 by decide), hkn, ixN_nI (by omega), hx, ixN_nI (by omega)]
                    rw [e]
                    exact ⟨by rw [hB.2.2.2.2.1], frH_CA hA0 hI hf2⟩
                  | 2, _, hwq =>
                    refine g_tableIn (pc := 87) (tgt := 124) F dX7_would_87 (by rw [hwq]; decide) (by rw [hwq]; decide) (by rw [hwq]; rfl) (by decide) ?_
                    refine g_aload (pc := 124) F dX7_would_124 rfl ?_
                    refine g_getr (pc := 126) F fl_X7_99 (by assumption) rfl dX7_would_126 ?_
                    refine g_geti (pc := 129) F fl_X7_102 (by assumption) rfl dX7_would_129 ?_
                    refine g_iload (pc := 132) F dX7_would_132 rfl ?_
                    refine g_isub (pc := 134) F dX7_would_134 ?_
                    refine g_iret (pc := 135) F r dX7_would_135 ?_
                    have e : oWould A.1 x k w = cw (endsN A.1 kn).2 i 8 - cw A.1 i 8 := by
                      unfold oWould
                      rw [if_pos ⟨hkP, hwP, hxP⟩, hwq, if_neg (by decide), if_neg (by decide), if_pos (show nI 2 = 2 by decide), hkn, ixN_nI (by omega), hx, ixN_nI (by omega)]
                    rw [e]
                    exact ⟨by rw [hB.2.2.2.2.2.2.2.2.1], frH_CA hA0 hI hf2⟩
                  | 3, _, hwq =>
                    refine g_tableOut (pc := 87) (tgt := 136) F dX7_would_87 (by rw [hwq]; decide) (by decide) ?_
                    refine g_aload (pc := 136) F dX7_would_136 rfl ?_
                    refine g_geti (pc := 138) F fl_X7_147 (by assumption) rfl dX7_would_138 ?_
                    refine g_iret (pc := 141) F r dX7_would_141 ?_
                    have e : oWould A.1 x k w = cw (endsN A.1 kn).2 i 6 := by
                      unfold oWould
                      rw [if_pos ⟨hkP, hwP, hxP⟩, hwq, if_neg (by decide), if_neg (by decide), if_neg (by decide), hkn, ixN_nI (by omega), hx, ixN_nI (by omega)]
                    rw [e]
                    exact ⟨by rw [hB.2.2.2.1], frH_CA hA0 hI hf2⟩
                · exact absurd (by rw [hy, hkn]; exact nI_le (by omega) (by omega)) c69
              | succ n ih =>
                intro j y M2 hjn hy hr2 hf2
                refine g_iload (pc := 66) F dX7_would_66 rfl ?_
                refine g_iload_n (pc := 68) F dX7_would_68 rfl ?_
                refine g_icmp_ge (pc := 69) (tgt := 86) F dX7_would_69 (by decide) (fun c69 => ?_) (fun c69 => ?_)
                · exact absurd c69 (by rw [hy, hkn]; exact nI_ge (by omega) (by omega))
                · refine g_aload_n (pc := 72) F dX7_would_72 rfl ?_
                  refine g_getr (pc := 73) F fl_X7_16 (by assumption) rfl dX7_would_73 ?_
                  refine g_callV (pc := 76) (rf2 := 2) (rl2 := 42) F cs_X7_137 k32 rfl (by decide) (by rfl) (by rfl) (Nat.le_of_ble_eq_true (by rfl)) (by decide) dX7_would_76 (c_X3_endTick _ g _ 32 k32 _ _ hr2 (endsN_inv hi j (by omega))) (fun v M2 hz => ?_)
                  obtain ⟨rfl, q1, q2⟩ := hz
                  refine g_pop (pc := 79) F dX7_would_79 rfl ?_
                  refine g_iinc (pc := 80) F dX7_would_80 rfl rfl (by decide) rfl ?_
                  refine g_goto (pc := 83) (tgt := 66) F dX7_would_83 (by decide) ?_
                  exact G.sub [some (.ref (ad g 0)), some (.int x), some (.int k), some (.int w), some (.ref (ad g (32 + 3 + 4 * i))), some (.int (cw A.1 i 8)), some (.int (y + Int32.ofInt 1))] ⟨rfl, rfl, rfl, rfl, rfl, rfl, rfl, trivial⟩ (ih (j + 1) _ _ (by omega) (by rw [hy]; exact nI_1 j) q1 (hf2.trans q2))
            exact L kn 0 _ _ (by omega) nI_0.symm r1 f1
          · refine g_astoreN (pc := 43) F dX7_would_43 (by decide) rfl ?_
            refine g_aloadN (pc := 45) F dX7_would_45 rfl ?_
            refine g_ifnonnullN (pc := 47) F dX7_would_47 ?_
            refine g_ldc (pc := 50) F wk_X7_77 dX7_would_50 ?_
            refine g_iret (pc := 52) F r dX7_would_52 ?_
            have e : oWould A.1 x k w = -1000001 := if_neg (fun q => inC_not hi hno q.2.2)
            rw [e]
            exact ⟨rfl, frH_CA hA0 hI f1⟩
        · refine g_ldc (pc := 21) F wk_X7_77 dX7_would_21 ?_
          refine g_iret (pc := 23) F r dX7_would_23 ?_
          have e : oWould A.1 x k w = -1000001 := if_neg (fun q => c18 q.2.1.2)
          rw [e]
          exact ⟨rfl, hA0, frC.refl _⟩

theorem nI_ge2 {a b : Nat} (h : a ≤ b) (hb : b < 2147483648) : ¬ nI b < nI a := Int32.not_lt.mpr (nI_le h hb)
set_option maxHeartbeats 4000000 in
set_option maxRecDepth 100000 in
theorem c_X7_meets (l : Launch) (g : Gm) (M : Mem) (A : AS) (hA : CA M A) (hI : AI A) (x : Int32) : Cn l yX7_meets cX7_meets 5 (some .int) 3 83 g [.ref (ad g 0), .int x] M (fun v M2 => v = some (.int (oMeets A.1 x)) ∧ CA M2 A ∧ frC M M2) := by
  refine Cn.intro (lv0 := [some (.ref (ad g 0)), some (.int x), none, none, none]) 3 (by decide +kernel) (Nat.le_of_ble_eq_true rfl) rfl (fun X F r => ?_)
  have hA0 := hA
  obtain ⟨sg, hA1, hA2, hA3, hA4, hA5, hA6⟩ := hA
  obtain ⟨t, ht, hi⟩ := hI.1
  have k0 := kd0
  have k63 := kd63
  have k1 := kd1
  have hn := hi.cn_le
  have hm := hi.gn_le
  have k32 := kd32
  have k220 := kd220
  refine g_aload_n (pc := 0) F dX7_meets_0 rfl ?_
  refine g_getr (pc := 1) F fl_X7_16 (by assumption) rfl dX7_meets_1 ?_
  refine g_aload_n (pc := 4) F dX7_meets_4 rfl ?_
  refine g_getr (pc := 5) F fl_X7_12 (by assumption) rfl dX7_meets_5 ?_
  refine g_callV (pc := 8) (rf2 := 2) (rl2 := 61) F cs_X7_134 k32 rfl (by decide) (by rfl) (by rfl) (Nat.le_of_ble_eq_true (by rfl)) (by decide) dX7_meets_8 (c_X3_copyFrom _ g _ 32 1 k32 k1 (Or.inr (by decide)) A.1 t hA1 hi) (fun v M1 hz => ?_)
  obtain ⟨rfl, r1, f1⟩ := hz
  refine g_aload_n (pc := 11) F dX7_meets_11 rfl ?_
  refine g_getr (pc := 12) F fl_X7_16 (by assumption) rfl dX7_meets_12 ?_
  refine g_iload_n (pc := 15) F dX7_meets_15 rfl ?_
  refine g_callV (pc := 16) (rf2 := 0) (rl2 := 0) F cs_X7_108 k32 rfl (by decide) (by rfl) (by rfl) (Nat.le_of_ble_eq_true (by rfl)) (by decide) dX7_meets_16 (c_X3_groupAt _ g _ 32 k32 (gn A.1) hm.1 (r1.2.1.trans hm.2) x) (fun v M2 hz => ?_)
  obtain ⟨h2, hz⟩ := hz
  rw [h2]
  rcases hz with ⟨gi, hg6, hgx, rfl⟩ | ⟨hnoG, rfl⟩
  · have hkg : kd (32 + 27 + gi) = 2 := (kd_hall k32).2.2.2 gi (by omega)
    have hxP : inG A.1 x := by rw [hgx]; exact inG_of hi hg6
    have hC := r1.2.2.2.2.2 gi hg6 3 (by decide)
    refine g_astore_n (pc := 19) F dX7_meets_19 (by decide) rfl ?_
    refine g_aload_n (pc := 20) F dX7_meets_20 rfl ?_
    refine g_ifnonnull (pc := 21) (tgt := 27) F dX7_meets_21 (by decide) ?_
    refine g_aload_n (pc := 27) F dX7_meets_27 rfl ?_
    refine g_geti (pc := 28) F fl_X7_125 (by assumption) rfl dX7_meets_28 ?_
    refine g_stk (st' := [.int (gw A.1 gi 3)]) (by rw [hC] <;> rfl) ?_
    refine g_istore_n (pc := 31) F dX7_meets_31 (by decide) rfl ?_
    refine g_iconst (pc := 32) (v := 1) F dX7_meets_32 (by decide) ?_
    refine g_istore (pc := 33) F dX7_meets_33 (by decide) rfl ?_
    have L : ∀ (n j : Nat) (y : Int32) (M2 : Mem), j + n = 200 → y = nI (j + 1) → HR M2 32 (endsN A.1 j).2 → frH M M2 32 → meetW A.1 gi 200 = meetW A.1 gi n → G X g 5 M2 35 [some (.ref (ad g 0)), some (.int x), some (.ref (ad g (32 + 27 + gi))), some (.int (gw A.1 gi 3)), some (.int y)] [] := by
      intro n
      induction n with
      | zero =>
        intro j y M2 hjn hy hr2 hf2 hE
        obtain rfl : j = 200 := by omega
        refine g_iload (pc := 35) F dX7_meets_35 rfl ?_
        refine g_sipush (pc := 37) (v := 200) F dX7_meets_37 (by decide) ?_
        refine g_icmp_gt (pc := 40) (tgt := 68) F dX7_meets_40 (by decide) (fun c40 => ?_) (fun c40 => ?_)
        · refine g_ldc (pc := 68) F wk_X7_150 dX7_meets_68 ?_
          refine g_iret (pc := 70) F r dX7_meets_70 ?_
          have e : oMeets A.1 x = -1000004 := by
            unfold oMeets
            rw [if_pos hxP, hgx, ixN_nI (by omega), hE]
            rfl
          rw [e]
          exact ⟨rfl, frH_CA hA0 hI hf2⟩
        · exact absurd (by rw [hy]; exact nI_lt (a := 200) (b := 200 + 1) (by decide) (by decide)) c40
      | succ n ih =>
        intro j y M2 hjn hy hr2 hf2 hE
        refine g_iload (pc := 35) F dX7_meets_35 rfl ?_
        refine g_sipush (pc := 37) (v := 200) F dX7_meets_37 (by decide) ?_
        refine g_icmp_gt (pc := 40) (tgt := 68) F dX7_meets_40 (by decide) (fun c40 => ?_) (fun c40 => ?_)
        · exact absurd c40 (by rw [hy]; exact nI_ge2 (a := j + 1) (b := 200) (by omega) (by decide))
        · refine g_aload_n (pc := 43) F dX7_meets_43 rfl ?_
          refine g_getr (pc := 44) F fl_X7_16 (by assumption) rfl dX7_meets_44 ?_
          refine g_callV (pc := 47) (rf2 := 2) (rl2 := 42) F cs_X7_137 k32 rfl (by decide) (by rfl) (by rfl) (Nat.le_of_ble_eq_true (by rfl)) (by decide) dX7_meets_47 (c_X3_endTick _ g _ 32 k32 _ _ hr2 (endsN_inv hi j (by omega))) (fun v M2 hz => ?_)
          obtain ⟨rfl, q1, q2⟩ := hz
          have hG : _ = gw (endsN A.1 (j + 1)).2 gi 3 := q1.2.2.2.2.2 gi (by show gi < gn (endsN A.1 (j + 1)).2; rw [(endsN_cn hi (j + 1) (by omega)).2]; exact hg6) 3 (by decide)
          have ej : 200 - n = j + 1 := by omega
          refine g_pop (pc := 50) F dX7_meets_50 rfl ?_
          refine g_aload_n (pc := 51) F dX7_meets_51 rfl ?_
          refine g_geti (pc := 52) F fl_X7_125 (by assumption) rfl dX7_meets_52 ?_
          refine g_iload_n (pc := 55) F dX7_meets_55 rfl ?_
          refine g_icmp_le (pc := 56) (tgt := 62) F dX7_meets_56 (by decide) (fun c56 => ?_) (fun c56 => ?_)
          · rw [hG] at c56
            refine g_iinc (pc := 62) F dX7_meets_62 rfl rfl (by decide) rfl ?_
            refine g_goto (pc := 65) (tgt := 35) F dX7_meets_65 (by decide) ?_
            refine G.sub [some (.ref (ad g 0)), some (.int x), some (.ref (ad g (32 + 27 + gi))), some (.int (gw A.1 gi 3)), some (.int (y + Int32.ofInt 1))] ⟨rfl, rfl, rfl, rfl, rfl, trivial⟩ (ih (j + 1) _ _ (by omega) (by rw [hy]; exact nI_1 _) q1 (hf2.trans q2) ?_)
            rw [hE]
            show (if gw A.1 gi 3 < gw (endsN A.1 (200 - n)).2 gi 3 then nI (200 - n) else meetW A.1 gi n) = meetW A.1 gi n
            rw [ej, if_neg (Int32.not_lt.mpr c56)]
          · rw [hG] at c56
            refine g_iload (pc := 59) F dX7_meets_59 rfl ?_
            refine g_iret (pc := 61) F r dX7_meets_61 ?_
            have e : oMeets A.1 x = nI (j + 1) := by
              unfold oMeets
              rw [if_pos hxP, hgx, ixN_nI (by omega), hE]
              show (if gw A.1 gi 3 < gw (endsN A.1 (200 - n)).2 gi 3 then nI (200 - n) else meetW A.1 gi n) = nI (j + 1)
              rw [ej, if_pos (Int32.not_le.mp c56)]
            rw [e]
            exact ⟨by rw [hy], frH_CA hA0 hI (hf2.trans q2)⟩
    exact L 200 0 _ _ (by omega) nI1 r1 f1 rfl
  · refine g_astore_nN (pc := 19) F dX7_meets_19 (by decide) rfl ?_
    refine g_aload_nN (pc := 20) F dX7_meets_20 rfl ?_
    refine g_ifnonnullN (pc := 21) F dX7_meets_21 ?_
    refine g_ldc (pc := 24) F wk_X7_77 dX7_meets_24 ?_
    refine g_iret (pc := 26) F r dX7_meets_26 ?_
    have e : oMeets A.1 x = -1000001 := if_neg (inG_not hi hnoG)
    rw [e]
    exact ⟨rfl, frH_CA hA0 hI f1⟩

