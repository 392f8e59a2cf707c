/-! the history: five halls, in the order of the slots -/
def slotsR (M : Mem) (sg : Nat → Nat) : Prop := (∀ k, k < 5 → M 64 k = nI (sg k) ∧ sg k < 5) ∧ ∀ i j, i < 5 → j < 5 → sg i = sg j → i = j
abbrev slH (sg : Nat → Nat) (k : Nat) : Nat := 65 + 31 * sg k
theorem slH_ge (sg : Nat → Nat) (k : Nat) : 65 ≤ slH sg k := Nat.le_add_right _ _
theorem kd63 : kd 63 = 4 := by decide
theorem kd64 : kd 64 = 17 := by decide
theorem kd1 : kd 1 = 3 := by decide
theorem kd32 : kd 32 = 3 := by decide
theorem kd0 : kd 0 = 7 := by decide
theorem kdSl : ∀ j, j < 5 → kd (65 + 31 * j) = 3 := by decide
set_option maxHeartbeats 4000000 in
set_option maxRecDepth 100000 in
theorem c_X4_note (l : Launch) (g : Gm) (M : Mem) (sg : Nat → Nat) (hs : slotsR M sg) (n : Nat) (hn4 : n ≤ 4) (hn : M 63 1 = nI n) (S : SV) (t : Nat) (hr : HR M 1 S) (hi : Inv S t) : Cn l yX4_note cX4_note 2 none 3 83 g [.ref (ad g 63), .ref (ad g 1)] M (fun v M2 => v = none ∧ HR M2 (slH sg n) S ∧ frH M M2 (slH sg n)) := by
  refine Cn.intro (lv0 := [some (.ref (ad g 63)), some (.ref (ad g 1))]) 0 (by decide +kernel) (Nat.le_of_ble_eq_true rfl) rfl (fun X F r => ?_)
  have k63 := kd63
  have k64 := kd64
  have k1 := kd1
  refine g_aload_n (pc := 0) F dX4_note_0 rfl ?_
  refine g_geti (pc := 1) F fl_X4_18 (by assumption) rfl dX4_note_1 ?_
  refine g_if_lt (pc := 4) (tgt := 32) F dX4_note_4 (by decide) (fun c4 => ?_) (fun c4 => ?_)
  · exact absurd c4 (by rw [hn]; exact nI_pos (by omega))
  · refine g_aload_n (pc := 7) F dX4_note_7 rfl ?_
    refine g_geti (pc := 8) F fl_X4_18 (by assumption) rfl dX4_note_8 ?_
    refine g_aload_n (pc := 11) F dX4_note_11 rfl ?_
    refine g_getr (pc := 12) F fl_X4_11 (by assumption) rfl dX4_note_12 ?_
    refine g_alenS (pc := 15) F (by assumption) (v := 5) (by decide) dX4_note_15 ?_
    refine g_icmp_ge (pc := 16) (tgt := 32) F dX4_note_16 (by decide) (fun c16 => ?_) (fun c16 => ?_)
    · exact absurd c16 (by rw [hn]; exact nI_ge (a := n) (b := 5) (by omega) (by decide))
    · refine g_aload_n (pc := 19) F dX4_note_19 rfl ?_
      refine g_getr (pc := 20) F fl_X4_11 (by assumption) rfl dX4_note_20 ?_
      refine g_aload_n (pc := 23) F dX4_note_23 rfl ?_
      refine g_geti (pc := 24) F fl_X4_18 (by assumption) rfl dX4_note_24 ?_
      refine g_aaldS (pc := 27) (q := n) (r := slH sg n) F k64 hn (by omega) (by rw [(hs.1 n (by omega)).1, nI_clamp (by have := (hs.1 n (by omega)).2; omega)]) dX4_note_27 ?_
      refine g_aload_n (pc := 28) F dX4_note_28 rfl ?_
      refine g_callV (pc := 29) (rf2 := 2) (rl2 := 61) F cs_X4_22 (kdSl _ (hs.1 n (by omega)).2) rfl (by decide) (by rfl) (by rfl) (Nat.le_of_ble_eq_true (by rfl)) (by decide) dX4_note_29 (c_X3_copyFrom _ g _ (slH sg n) 1 (kdSl _ (hs.1 n (by omega)).2) k1 (Or.inr (by show 1 + 31 ≤ 65 + 31 * sg n; omega)) S t hr hi) (fun v M2 hz => ?_)
      obtain ⟨rfl, z1, z2⟩ := hz
      refine g_vret (pc := 32) F r dX4_note_32 ?_
      exact ⟨rfl, z1, z2⟩

/-- one state more is kept; the oldest slot comes behind if there are five -/
def keepM (M : Mem) (n : Nat) : Mem := if n < 4 then upd2 M 63 1 (nI (n + 1)) else updr (upd2 M 63 1 (nI 4)) 64 (fun k => if k < 4 then M 64 (k + 1) else if k = 4 then M 64 0 else M 64 k)
set_option maxHeartbeats 4000000 in
set_option maxRecDepth 100000 in
theorem c_X4_keep (l : Launch) (g : Gm) (M : Mem) (sg : Nat → Nat) (hs : slotsR M sg) (n : Nat) (hn4 : n ≤ 4) (hn : M 63 1 = nI n) : Cn l yX4_keep cX4_keep 3 none 0 0 g [.ref (ad g 63)] M (fun v M2 => v = none ∧ M2 = keepM M n) := by
  refine Cn.intro (lv0 := [some (.ref (ad g 63)), none, none]) 2 (by decide +kernel) (Nat.le_of_ble_eq_true rfl) rfl (fun X F r => ?_)
  have k63 := kd63
  have k64 := kd64
  have k1 := kd1
  refine g_aload_n (pc := 0) F dX4_keep_0 rfl ?_
  refine g_dup (pc := 1) F dX4_keep_1 rfl ?_
  refine g_geti (pc := 2) F fl_X4_18 (by assumption) rfl dX4_keep_2 ?_
  refine g_iconst (pc := 5) (v := 1) F dX4_keep_5 (by decide) ?_
  refine g_iadd (pc := 6) F dX4_keep_6 ?_
  refine g_puti (pc := 7) F fl_X4_18 rfl rfl (by assumption) rfl dX4_keep_7 ?_
  refine g_aload_n (pc := 10) F dX4_keep_10 rfl ?_
  refine g_geti (pc := 11) F fl_X4_18 (by assumption) rfl dX4_keep_11 ?_
  refine g_iconst (pc := 14) (v := 4) F dX4_keep_14 (by decide) ?_
  refine g_icmp_gt (pc := 15) (tgt := 19) F dX4_keep_15 (by decide) (fun c15 => ?_) (fun c15 => ?_)
  · have h4 : n = 4 := by
      rw [upd2_self, hn, nI_1] at c15
      have := (nI_ltI (a := 4) (by decide) (by omega)).mp c15
      omega
    refine g_aload_n (pc := 19) F dX4_keep_19 rfl ?_
    refine g_iconst (pc := 20) (v := 4) F dX4_keep_20 (by decide) ?_
    refine g_puti (pc := 21) F fl_X4_18 rfl rfl (by assumption) rfl dX4_keep_21 ?_
    refine g_aload_n (pc := 24) F dX4_keep_24 rfl ?_
    refine g_getr (pc := 25) F fl_X4_11 (by assumption) rfl dX4_keep_25 ?_
    refine g_iconst (pc := 28) (v := 0) F dX4_keep_28 (by decide) ?_
    refine g_aaldS (pc := 29) (q := 0) (r := slH sg 0) F k64 (by decide) (by decide) (by rw [upd2_k _ _ _ (by decide), upd2_k _ _ _ (by decide), (hs.1 0 (by decide)).1, nI_clamp (by have := (hs.1 0 (by decide)).2; omega)]) dX4_keep_29 ?_
    refine g_astore_n (pc := 30) F dX4_keep_30 (by decide) rfl ?_
    refine g_iconst (pc := 31) (v := 1) F dX4_keep_31 (by decide) ?_
    refine g_istore_n (pc := 32) F dX4_keep_32 (by decide) rfl ?_
    have hA1 : (upd2 (upd2 M 63 1 (M 63 1 + 1)) 63 1 4) 64 1 = nI (sg 1) := by
      simp only [upd2_get]
      simp [(hs.1 1 (by decide)).1]
    refine g_iload_n (pc := 33) F dX4_keep_33 rfl ?_
    refine g_aload_n (pc := 34) F dX4_keep_34 rfl ?_
    refine g_getr (pc := 35) F fl_X4_11 (by assumption) rfl dX4_keep_35 ?_
    refine g_alenS (pc := 38) F (by assumption) (v := 5) (by decide) dX4_keep_38 ?_
    refine g_icmp_ge (pc := 39) (tgt := 62) F dX4_keep_39 (by decide) (fun c39 => ?_) (fun c39 => ?_)
    · exact absurd c39 (by decide)
    · refine g_aload_n (pc := 42) F dX4_keep_42 rfl ?_
      refine g_getr (pc := 43) F fl_X4_11 (by assumption) rfl dX4_keep_43 ?_
      refine g_iload_n (pc := 46) F dX4_keep_46 rfl ?_
      refine g_iconst (pc := 47) (v := 1) F dX4_keep_47 (by decide) ?_
      refine g_isub (pc := 48) F dX4_keep_48 ?_
      refine g_stk (st' := [.int (nI 0), .ref (ad g 64)]) rfl ?_
      refine g_aload_n (pc := 49) F dX4_keep_49 rfl ?_
      refine g_getr (pc := 50) F fl_X4_11 (by assumption) rfl dX4_keep_50 ?_
      refine g_iload_n (pc := 53) F dX4_keep_53 rfl ?_
      refine g_aaldS (pc := 54) (q := 1) (r := slH sg 1) F k64 (by decide) (by decide) (by rw [hA1, nI_clamp (by have := (hs.1 1 (by decide)).2; omega)]) dX4_keep_54 ?_
      refine g_aastS (pc := 55) (q := sg 1) (i0 := 0) F k64 rfl (by decide) (hs.1 1 (by decide)).2 dX4_keep_55 ?_
      refine g_iinc (pc := 56) F dX4_keep_56 rfl rfl (by decide) rfl ?_
      refine g_goto (pc := 59) (tgt := 33) F dX4_keep_59 (by decide) ?_
      refine G.sub [some (.ref (ad g 63)), some (.ref (ad g (slH sg 0))), some (.int 2)] ⟨rfl, rfl, rfl, trivial⟩ ?_
      have hA2 : (upd2 (upd2 (upd2 M 63 1 (M 63 1 + 1)) 63 1 4) 64 0 (nI (sg 1))) 64 2 = nI (sg 2) := by
        simp only [upd2_get]
        simp [(hs.1 2 (by decide)).1]
      refine g_iload_n (pc := 33) F dX4_keep_33 rfl ?_
      refine g_aload_n (pc := 34) F dX4_keep_34 rfl ?_
      refine g_getr (pc := 35) F fl_X4_11 (by assumption) rfl dX4_keep_35 ?_
      refine g_alenS (pc := 38) F (by assumption) (v := 5) (by decide) dX4_keep_38 ?_
      refine g_icmp_ge (pc := 39) (tgt := 62) F dX4_keep_39 (by decide) (fun c39 => ?_) (fun c39 => ?_)
      · exact absurd c39 (by decide)
      · refine g_aload_n (pc := 42) F dX4_keep_42 rfl ?_
        refine g_getr (pc := 43) F fl_X4_11 (by assumption) rfl dX4_keep_43 ?_
        refine g_iload_n (pc := 46) F dX4_keep_46 rfl ?_
        refine g_iconst (pc := 47) (v := 1) F dX4_keep_47 (by decide) ?_
        refine g_isub (pc := 48) F dX4_keep_48 ?_
        refine g_stk (st' := [.int (nI 1), .ref (ad g 64)]) rfl ?_
        refine g_aload_n (pc := 49) F dX4_keep_49 rfl ?_
        refine g_getr (pc := 50) F fl_X4_11 (by assumption) rfl dX4_keep_50 ?_
        refine g_iload_n (pc := 53) F dX4_keep_53 rfl ?_
        refine g_aaldS (pc := 54) (q := 2) (r := slH sg 2) F k64 (by decide) (by decide) (by rw [hA2, nI_clamp (by have := (hs.1 2 (by decide)).2; omega)]) dX4_keep_54 ?_
        refine g_aastS (pc := 55) (q := sg 2) (i0 := 1) F k64 rfl (by decide) (hs.1 2 (by decide)).2 dX4_keep_55 ?_
        refine g_iinc (pc := 56) F dX4_keep_56 rfl rfl (by decide) rfl ?_
        refine g_goto (pc := 59) (tgt := 33) F dX4_keep_59 (by decide) ?_
        refine G.sub [some (.ref (ad g 63)), some (.ref (ad g (slH sg 0))), some (.int 3)] ⟨rfl, rfl, rfl, trivial⟩ ?_
        have hA3 : (upd2 (upd2 (upd2 (upd2 M 63 1 (M 63 1 + 1)) 63 1 4) 64 0 (nI (sg 1))) 64 1 (nI (sg 2))) 64 3 = nI (sg 3) := by
          simp only [upd2_get]
          simp [(hs.1 3 (by decide)).1]
        refine g_iload_n (pc := 33) F dX4_keep_33 rfl ?_
        refine g_aload_n (pc := 34) F dX4_keep_34 rfl ?_
        refine g_getr (pc := 35) F fl_X4_11 (by assumption) rfl dX4_keep_35 ?_
        refine g_alenS (pc := 38) F (by assumption) (v := 5) (by decide) dX4_keep_38 ?_
        refine g_icmp_ge (pc := 39) (tgt := 62) F dX4_keep_39 (by decide) (fun c39 => ?_) (fun c39 => ?_)
        · exact absurd c39 (by decide)
        · refine g_aload_n (pc := 42) F dX4_keep_42 rfl ?_
          refine g_getr (pc := 43) F fl_X4_11 (by assumption) rfl dX4_keep_43 ?_
          refine g_iload_n (pc := 46) F dX4_keep_46 rfl ?_
          refine g_iconst (pc := 47) (v := 1) F dX4_keep_47 (by decide) ?_
          refine g_isub (pc := 48) F dX4_keep_48 ?_
          refine g_stk (st' := [.int (nI 2), .ref (ad g 64)]) rfl ?_
          refine g_aload_n (pc := 49) F dX4_keep_49 rfl ?_
          refine g_getr (pc := 50) F fl_X4_11 (by assumption) rfl dX4_keep_50 ?_
          refine g_iload_n (pc := 53) F dX4_keep_53 rfl ?_
          refine g_aaldS (pc := 54) (q := 3) (r := slH sg 3) F k64 (by decide) (by decide) (by rw [hA3, nI_clamp (by have := (hs.1 3 (by decide)).2; omega)]) dX4_keep_54 ?_
          refine g_aastS (pc := 55) (q := sg 3) (i0 := 2) F k64 rfl (by decide) (hs.1 3 (by decide)).2 dX4_keep_55 ?_
          refine g_iinc (pc := 56) F dX4_keep_56 rfl rfl (by decide) rfl ?_
          refine g_goto (pc := 59) (tgt := 33) F dX4_keep_59 (by decide) ?_
          refine G.sub [some (.ref (ad g 63)), some (.ref (ad g (slH sg 0))), some (.int 4)] ⟨rfl, rfl, rfl, trivial⟩ ?_
          have hA4 : (upd2 (upd2 (upd2 (upd2 (upd2 M 63 1 (M 63 1 + 1)) 63 1 4) 64 0 (nI (sg 1))) 64 1 (nI (sg 2))) 64 2 (nI (sg 3))) 64 4 = nI (sg 4) := by
            simp only [upd2_get]
            simp [(hs.1 4 (by decide)).1]
          refine g_iload_n (pc := 33) F dX4_keep_33 rfl ?_
          refine g_aload_n (pc := 34) F dX4_keep_34 rfl ?_
          refine g_getr (pc := 35) F fl_X4_11 (by assumption) rfl dX4_keep_35 ?_
          refine g_alenS (pc := 38) F (by assumption) (v := 5) (by decide) dX4_keep_38 ?_
          refine g_icmp_ge (pc := 39) (tgt := 62) F dX4_keep_39 (by decide) (fun c39 => ?_) (fun c39 => ?_)
          · exact absurd c39 (by decide)
          · refine g_aload_n (pc := 42) F dX4_keep_42 rfl ?_
            refine g_getr (pc := 43) F fl_X4_11 (by assumption) rfl dX4_keep_43 ?_
            refine g_iload_n (pc := 46) F dX4_keep_46 rfl ?_
            refine g_iconst (pc := 47) (v := 1) F dX4_keep_47 (by decide) ?_
            refine g_isub (pc := 48) F dX4_keep_48 ?_
            refine g_stk (st' := [.int (nI 3), .ref (ad g 64)]) rfl ?_
            refine g_aload_n (pc := 49) F dX4_keep_49 rfl ?_
            refine g_getr (pc := 50) F fl_X4_11 (by assumption) rfl dX4_keep_50 ?_
            refine g_iload_n (pc := 53) F dX4_keep_53 rfl ?_
            refine g_aaldS (pc := 54) (q := 4) (r := slH sg 4) F k64 (by decide) (by decide) (by rw [hA4, nI_clamp (by have := (hs.1 4 (by decide)).2; omega)]) dX4_keep_54 ?_
            refine g_aastS (pc := 55) (q := sg 4) (i0 := 3) F k64 rfl (by decide) (hs.1 4 (by decide)).2 dX4_keep_55 ?_
            refine g_iinc (pc := 56) F dX4_keep_56 rfl rfl (by decide) rfl ?_
            refine g_goto (pc := 59) (tgt := 33) F dX4_keep_59 (by decide) ?_
            refine G.sub [some (.ref (ad g 63)), some (.ref (ad g (slH sg 0))), some (.int 5)] ⟨rfl, rfl, rfl, trivial⟩ ?_
            refine g_iload_n (pc := 33) F dX4_keep_33 rfl ?_
            refine g_aload_n (pc := 34) F dX4_keep_34 rfl ?_
            refine g_getr (pc := 35) F fl_X4_11 (by assumption) rfl dX4_keep_35 ?_
            refine g_alenS (pc := 38) F (by assumption) (v := 5) (by decide) dX4_keep_38 ?_
            refine g_icmp_ge (pc := 39) (tgt := 62) F dX4_keep_39 (by decide) (fun c39 => ?_) (fun c39 => ?_)
            · refine g_aload_n (pc := 62) F dX4_keep_62 rfl ?_
              refine g_getr (pc := 63) F fl_X4_11 (by assumption) rfl dX4_keep_63 ?_
              refine g_iconst (pc := 66) (v := 4) F dX4_keep_66 (by decide) ?_
              refine g_aload_n (pc := 67) F dX4_keep_67 rfl ?_
              refine g_aastS (pc := 68) (q := sg 0) (i0 := 4) F k64 (by decide) (by decide) (hs.1 0 (by decide)).2 dX4_keep_68 ?_
              refine g_vret (pc := 69) F r dX4_keep_69 ?_
              refine ⟨rfl, ?_⟩
              unfold keepM
              rw [if_neg (by omega)]
              funext a k
              simp only [upd2_get, updr_get]
              by_cases h64 : a = 64
              · subst h64
                simp only [if_true, show ¬ (64 : Nat) = 63 by decide, if_false]
                have e0 := (hs.1 0 (by decide)).1
                have e1 := (hs.1 1 (by decide)).1
                have e2 := (hs.1 2 (by decide)).1
                have e3 := (hs.1 3 (by decide)).1
                have e4 := (hs.1 4 (by decide)).1
                match k with
                | 0 => simp [e1]
                | 1 => simp [e2]
                | 2 => simp [e3]
                | 3 => simp [e4]
                | 4 => simp [e0]
                | k + 5 => simp [show ¬ k + 5 < 4 by omega]
              · simp only [h64, if_false]
                by_cases h63 : a = 63
                · subst h63
                  by_cases hk : k = 1 <;> simp [hk] <;> decide
                · simp [h63]
            · exact absurd (by decide) c39
  · have h4 : n < 4 := by
      rw [upd2_self, hn, nI_1] at c15
      rcases Nat.lt_or_ge n 4 with q | q
      · exact q
      · exact absurd (nI_lt (a := 4) (b := n + 1) (by omega) (by omega)) c15
    refine g_vret (pc := 18) F r dX4_keep_18 ?_
    refine ⟨rfl, ?_⟩
    unfold keepM
    rw [if_pos h4, hn, nI_1]

set_option maxHeartbeats 4000000 in
set_option maxRecDepth 100000 in
theorem c_X7_settle (l : Launch) (g : Gm) (M : Mem) (sg : Nat → Nat) (hs : slotsR M sg) (n : Nat) (hn4 : n ≤ 4) (hn : M 63 1 = nI n) (x : Int32) : Cn l yX7_settle cX7_settle 2 (some .int) 1 22 g [.ref (ad g 0), .int x] M (fun v M2 => v = some (.int x) ∧ ((x < 0 ∧ M2 = M) ∨ (¬ x < 0 ∧ M2 = keepM M n))) := by
  refine Cn.intro (lv0 := [some (.ref (ad g 0)), some (.int x)]) 0 (by decide +kernel) (Nat.le_of_ble_eq_true rfl) rfl (fun X F r => ?_)
  have k63 := kd63
  have k64 := kd64
  have k1 := kd1
  have k0 := kd0
  refine g_iload_n (pc := 0) F dX7_settle_0 rfl ?_
  refine g_if_lt (pc := 1) (tgt := 11) F dX7_settle_1 (by decide) (fun c1 => ?_) (fun c1 => ?_)
  · refine g_iload_n (pc := 11) F dX7_settle_11 rfl ?_
    refine g_iret (pc := 12) F r dX7_settle_12 ?_
    exact ⟨rfl, Or.inl ⟨c1, rfl⟩⟩
  · refine g_aload_n (pc := 4) F dX7_settle_4 rfl ?_
    refine g_getr (pc := 5) F fl_X7_22 (by assumption) rfl dX7_settle_5 ?_
    refine g_callV (pc := 8) (rf2 := 0) (rl2 := 0) F cs_X7_203 k63 rfl (by decide) (by rfl) (by rfl) (Nat.le_of_ble_eq_true (by rfl)) (by decide) dX7_settle_8 (c_X4_keep _ g _ sg hs n hn4 hn) (fun v M2 hz => ?_)
    obtain ⟨rfl, hz⟩ := hz
    refine g_iload_n (pc := 11) F dX7_settle_11 rfl ?_
    refine g_iret (pc := 12) F r dX7_settle_12 ?_
    exact ⟨rfl, Or.inr ⟨c1, hz⟩⟩
