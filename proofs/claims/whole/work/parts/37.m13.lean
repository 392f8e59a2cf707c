/-! the check: next, would, meets -/
set_option maxHeartbeats 4000000 in
set_option maxRecDepth 100000 in
theorem c_X8_next (l : Launch) (g : Gm) (M : Mem) (t : Nat) (hi : Inv (M 225) t) (x : Int32) : Cn l yX8_next cX8_next 5 (some .int) 2 43 g [.ref (ad g 224), .int x] M (fun v M2 => v = some (.int (oNext (M 225) x)) ∧ M2 = M) := by
  refine Cn.intro (lv0 := [some (.ref (ad g 224)), some (.int x), none, none, none]) 3 (by decide +kernel) (Nat.le_of_ble_eq_true rfl) rfl (fun X F r => ?_)
  have k224 := kd224
  have k225 := kd225
  have hn := hi.cn_le
  have hm := hi.gn_le
  refine g_iload_n (pc := 0) F dX8_next_0 rfl ?_
  refine g_if_ge (pc := 1) (tgt := 7) F dX8_next_1 (by decide) (fun c1 => ?_) (fun c1 => ?_)
  · refine g_iconst (pc := 7) (v := 0) F dX8_next_7 (by decide) ?_
    refine g_istore_n (pc := 8) F dX8_next_8 (by decide) rfl ?_
    have L : ∀ (n c : Nat) (y : Int32) (w3 w4 : Option Value), c + n = cn (M 225) → y = nI c → nextW (M 225) x (cn (M 225)) = nextW (M 225) x n → G X g 5 M 9 [some (.ref (ad g 224)), some (.int x), some (.int y), w3, w4] [] := by
      rw [show oNext (M 225) x = nextW (M 225) x (cn (M 225)) from if_neg (Int32.not_lt.mpr c1)] at r
      intro n
      induction n with
      | zero =>
        intro c y w3 w4 hin hy hE
        obtain rfl : c = cn (M 225) := by omega
        refine g_iload_n (pc := 9) F dX8_next_9 rfl ?_
        refine g_aload_n (pc := 10) F dX8_next_10 rfl ?_
        refine g_getr (pc := 11) F fl_X8_7 (by assumption) rfl dX8_next_11 ?_
        refine g_iconst (pc := 14) (v := 0) F dX8_next_14 (by decide) ?_
        refine g_iald (pc := 15) (q := 0) F k225 rfl (by decide) (by decide) dX8_next_15 ?_
        refine g_icmp_ge (pc := 16) (tgt := 96) F dX8_next_16 (by decide) (fun c16 => ?_) (fun c16 => ?_)
        · refine g_ldc (pc := 96) F wk_X8_109 dX8_next_96 ?_
          refine g_iret (pc := 98) F r dX8_next_98 ?_
          rw [hE]
          exact ⟨rfl, rfl⟩
        · exact absurd (by rw [hn.2, hy]; exact nI_le (by omega) (by omega)) c16
      | succ n ih =>
        intro c y w3 w4 hin hy hE
        refine g_iload_n (pc := 9) F dX8_next_9 rfl ?_
        refine g_aload_n (pc := 10) F dX8_next_10 rfl ?_
        refine g_getr (pc := 11) F fl_X8_7 (by assumption) rfl dX8_next_11 ?_
        refine g_iconst (pc := 14) (v := 0) F dX8_next_14 (by decide) ?_
        refine g_iald (pc := 15) (q := 0) F k225 rfl (by decide) (by decide) dX8_next_15 ?_
        refine g_icmp_ge (pc := 16) (tgt := 96) F dX8_next_16 (by decide) (fun c16 => ?_) (fun c16 => ?_)
        · exact absurd c16 (by rw [hn.2, hy]; exact nI_ge (by omega) (by omega))
        · refine g_iconst (pc := 19) (v := 0) F dX8_next_19 (by decide) ?_
          refine g_istore_n (pc := 20) F dX8_next_20 (by decide) rfl ?_
          refine g_iconst (pc := 21) (v := 0) F dX8_next_21 (by decide) ?_
          refine g_istore (pc := 22) F dX8_next_22 (by decide) rfl ?_
          have L2 : ∀ (n2 i : Nat) (y2 : Int32), i + n2 = cn (M 225) → y2 = nI i → G X g 5 M 24 [some (.ref (ad g 224)), some (.int x), some (.int y), some (.int (aheadW (M 225) c i)), some (.int y2)] [] := by
            intro n2
            induction n2 with
            | zero =>
              intro i y2 hin hy2
              obtain rfl : i = cn (M 225) := by omega
              refine g_iload (pc := 24) F dX8_next_24 rfl ?_
              refine g_aload_n (pc := 26) F dX8_next_26 rfl ?_
              refine g_getr (pc := 27) F fl_X8_7 (by assumption) rfl dX8_next_27 ?_
              refine g_iconst (pc := 30) (v := 0) F dX8_next_30 (by decide) ?_
              refine g_iald (pc := 31) (q := 0) F k225 rfl (by decide) (by decide) dX8_next_31 ?_
              refine g_icmp_ge (pc := 32) (tgt := 83) F dX8_next_32 (by decide) (fun c32 => ?_) (fun c32 => ?_)
              · refine g_iload_n (pc := 83) F dX8_next_83 rfl ?_
                refine g_iload_n (pc := 84) F dX8_next_84 rfl ?_
                refine g_icmp_ne (pc := 85) (tgt := 90) F dX8_next_85 (by decide) (fun c85 => ?_) (fun c85 => ?_)
                · refine g_iinc (pc := 90) F dX8_next_90 rfl rfl (by decide) rfl ?_
                  refine g_goto (pc := 93) (tgt := 9) F dX8_next_93 (by decide) ?_
                  refine ih (c + 1) _ _ _ (by omega) (by rw [hy]; exact nI_1 c) ?_
                  rw [hE]
                  show (if aheadW (M 225) (cn (M 225) - (n + 1)) (cn (M 225)) = x then nI (cn (M 225) - (n + 1)) else nextW (M 225) x n) = nextW (M 225) x n
                  rw [show cn (M 225) - (n + 1) = c by omega, if_neg c85]
                · refine g_iload_n (pc := 88) F dX8_next_88 rfl ?_
                  refine g_iret (pc := 89) F r dX8_next_89 ?_
                  rw [hE, show nextW (M 225) x (n + 1) = nI c by
                    show (if aheadW (M 225) (cn (M 225) - (n + 1)) (cn (M 225)) = x then nI (cn (M 225) - (n + 1)) else nextW (M 225) x n) = nI c
                    rw [show cn (M 225) - (n + 1) = c by omega, if_pos c85]]
                  exact ⟨by rw [hy], rfl⟩
              · exact absurd (by rw [hn.2, hy2]; exact nI_le (by omega) (by omega)) c32
            | succ n2 ih2 =>
              intro i y2 hin hy2
              refine g_iload (pc := 24) F dX8_next_24 rfl ?_
              refine g_aload_n (pc := 26) F dX8_next_26 rfl ?_
              refine g_getr (pc := 27) F fl_X8_7 (by assumption) rfl dX8_next_27 ?_
              refine g_iconst (pc := 30) (v := 0) F dX8_next_30 (by decide) ?_
              refine g_iald (pc := 31) (q := 0) F k225 rfl (by decide) (by decide) dX8_next_31 ?_
              refine g_icmp_ge (pc := 32) (tgt := 83) F dX8_next_32 (by decide) (fun c32 => ?_) (fun c32 => ?_)
              · exact absurd c32 (by rw [hn.2, hy2]; exact nI_ge (by omega) (by omega))
              · refine g_iload_n (pc := 35) F dX8_next_35 rfl ?_
                refine g_aload_n (pc := 36) F dX8_next_36 rfl ?_
                refine g_iload (pc := 37) F dX8_next_37 rfl ?_
                refine g_stk (st' := [.int (nI i), .ref (ad g 224), .int (aheadW (M 225) c i)]) (by rw [hy2] <;> rfl) ?_
                refine g_callV (pc := 39) (rf2 := 1) (rl2 := 22) F cs_X8_61 k224 rfl (by decide) (by rfl) (by rfl) (Nat.le_of_ble_eq_true (by rfl)) (by decide) dX8_next_39 (c_X8_rest _ g _ i (by omega)) (fun v M2 hz => ?_)
                obtain ⟨rfl, h2⟩ := hz
                rw [h2]
                refine g_aload_n (pc := 42) F dX8_next_42 rfl ?_
                refine g_iload_n (pc := 43) F dX8_next_43 rfl ?_
                refine g_stk (st' := [.int (nI c), .ref (ad g 224), .int (restW (M 225) i), .int (aheadW (M 225) c i)]) (by rw [hy] <;> rfl) ?_
                refine g_callV (pc := 44) (rf2 := 1) (rl2 := 22) F cs_X8_61 k224 rfl (by decide) (by rfl) (by rfl) (Nat.le_of_ble_eq_true (by rfl)) (by decide) dX8_next_44 (c_X8_rest _ g _ c (by omega)) (fun v M2 hz => ?_)
                obtain ⟨rfl, h2⟩ := hz
                rw [h2]
                refine g_icmp_lt (pc := 47) (tgt := 70) F dX8_next_47 (by decide) (fun c47 => ?_) (fun c47 => ?_)
                · refine g_iconst (pc := 70) (v := 1) F dX8_next_70 (by decide) ?_
                  refine g_goto (pc := 71) (tgt := 75) F dX8_next_71 (by decide) ?_
                  refine g_iadd (pc := 75) F dX8_next_75 ?_
                  refine g_istore_n (pc := 76) F dX8_next_76 (by decide) rfl ?_
                  refine g_iinc (pc := 77) F dX8_next_77 rfl rfl (by decide) rfl ?_
                  refine g_goto (pc := 80) (tgt := 24) F dX8_next_80 (by decide) ?_
                  refine G.sub [some (.ref (ad g 224)), some (.int x), some (.int y), some (.int (aheadW (M 225) c (i + 1))), some (.int (y2 + Int32.ofInt 1))] ⟨rfl, rfl, rfl, ?_, rfl, trivial⟩ (ih2 (i + 1) _ (by omega) (by rw [hy2]; exact nI_1 i))
                  show some (Value.int _) = some (Value.int (if restW (M 225) i < restW (M 225) c ∨ _ then _ else _))
                  rw [if_pos (Or.inl c47)]
                · refine g_aload_n (pc := 50) F dX8_next_50 rfl ?_
                  refine g_iload (pc := 51) F dX8_next_51 rfl ?_
                  refine g_stk (st' := [.int (nI i), .ref (ad g 224), .int (aheadW (M 225) c i)]) (by rw [hy2] <;> rfl) ?_
                  refine g_callV (pc := 53) (rf2 := 1) (rl2 := 22) F cs_X8_61 k224 rfl (by decide) (by rfl) (by rfl) (Nat.le_of_ble_eq_true (by rfl)) (by decide) dX8_next_53 (c_X8_rest _ g _ i (by omega)) (fun v M2 hz => ?_)
                  obtain ⟨rfl, h2⟩ := hz
                  rw [h2]
                  refine g_aload_n (pc := 56) F dX8_next_56 rfl ?_
                  refine g_iload_n (pc := 57) F dX8_next_57 rfl ?_
                  refine g_stk (st' := [.int (nI c), .ref (ad g 224), .int (restW (M 225) i), .int (aheadW (M 225) c i)]) (by rw [hy] <;> rfl) ?_
                  refine g_callV (pc := 58) (rf2 := 1) (rl2 := 22) F cs_X8_61 k224 rfl (by decide) (by rfl) (by rfl) (Nat.le_of_ble_eq_true (by rfl)) (by decide) dX8_next_58 (c_X8_rest _ g _ c (by omega)) (fun v M2 hz => ?_)
                  obtain ⟨rfl, h2⟩ := hz
                  rw [h2]
                  refine g_icmp_ne (pc := 61) (tgt := 74) F dX8_next_61 (by decide) (fun c61 => ?_) (fun c61 => ?_)
                  · refine g_iconst (pc := 74) (v := 0) F dX8_next_74 (by decide) ?_
                    refine g_iadd (pc := 75) F dX8_next_75 ?_
                    refine g_istore_n (pc := 76) F dX8_next_76 (by decide) rfl ?_
                    refine g_iinc (pc := 77) F dX8_next_77 rfl rfl (by decide) rfl ?_
                    refine g_goto (pc := 80) (tgt := 24) F dX8_next_80 (by decide) ?_
                    refine G.sub [some (.ref (ad g 224)), some (.int x), some (.int y), some (.int (aheadW (M 225) c (i + 1))), some (.int (y2 + Int32.ofInt 1))] ⟨rfl, rfl, rfl, ?_, rfl, trivial⟩ (ih2 (i + 1) _ (by omega) (by rw [hy2]; exact nI_1 i))
                    show some (Value.int _) = some (Value.int (if restW (M 225) i < restW (M 225) c ∨ _ then _ else _))
                    rw [if_neg (fun e => e.elim c47 (fun w => c61 w.1)), Int32.add_zero]
                  · refine g_iload (pc := 64) F dX8_next_64 rfl ?_
                    refine g_iload_n (pc := 66) F dX8_next_66 rfl ?_
                    refine g_icmp_ge (pc := 67) (tgt := 74) F dX8_next_67 (by decide) (fun c67 => ?_) (fun c67 => ?_)
                    · refine g_iconst (pc := 74) (v := 0) F dX8_next_74 (by decide) ?_
                      refine g_iadd (pc := 75) F dX8_next_75 ?_
                      refine g_istore_n (pc := 76) F dX8_next_76 (by decide) rfl ?_
                      refine g_iinc (pc := 77) F dX8_next_77 rfl rfl (by decide) rfl ?_
                      refine g_goto (pc := 80) (tgt := 24) F dX8_next_80 (by decide) ?_
                      refine G.sub [some (.ref (ad g 224)), some (.int x), some (.int y), some (.int (aheadW (M 225) c (i + 1))), some (.int (y2 + Int32.ofInt 1))] ⟨rfl, rfl, rfl, ?_, rfl, trivial⟩ (ih2 (i + 1) _ (by omega) (by rw [hy2]; exact nI_1 i))
                      show some (Value.int _) = some (Value.int (if restW (M 225) i < restW (M 225) c ∨ _ then _ else _))
                      rw [if_neg (fun e => e.elim c47 (fun w => by rw [hy, hy2] at c67; exact nI_ge w.2 (by omega) c67)), Int32.add_zero]
                    · refine g_iconst (pc := 70) (v := 1) F dX8_next_70 (by decide) ?_
                      refine g_goto (pc := 71) (tgt := 75) F dX8_next_71 (by decide) ?_
                      refine g_iadd (pc := 75) F dX8_next_75 ?_
                      refine g_istore_n (pc := 76) F dX8_next_76 (by decide) rfl ?_
                      refine g_iinc (pc := 77) F dX8_next_77 rfl rfl (by decide) rfl ?_
                      refine g_goto (pc := 80) (tgt := 24) F dX8_next_80 (by decide) ?_
                      refine G.sub [some (.ref (ad g 224)), some (.int x), some (.int y), some (.int (aheadW (M 225) c (i + 1))), some (.int (y2 + Int32.ofInt 1))] ⟨rfl, rfl, rfl, ?_, rfl, trivial⟩ (ih2 (i + 1) _ (by omega) (by rw [hy2]; exact nI_1 i))
                      show some (Value.int _) = some (Value.int (if restW (M 225) i < restW (M 225) c ∨ _ then _ else _))
                      rw [if_pos (Or.inr ⟨c61, by rw [hy, hy2, nI_leI (by omega) (by omega)] at c67; omega⟩)]
          exact L2 (cn (M 225)) 0 _ (by omega) nI0
    exact L (cn (M 225)) 0 _ _ _ (by omega) nI0 rfl
  · refine g_ldc (pc := 4) F wk_X8_88 dX8_next_4 ?_
    refine g_iret (pc := 6) F r dX8_next_6 ?_
    exact ⟨by rw [show oNext (M 225) x = -1000001 from if_pos (Int32.not_le.mp c1)], rfl⟩

def back110 (M M2 : Mem) : Prop := (∀ k, k < 110 → M2 225 k = M 225 k) ∧ ∀ a, a ≠ 225 → a ≠ 228 → M2 a = M a
theorem cpyF_lt (f r : Nat → Int32) (n : Nat) {k : Nat} (h : k < n) : cpyF f r n k = f k := if_pos h
set_option maxHeartbeats 4000000 in
set_option maxRecDepth 100000 in
theorem c_X8_would (l : Launch) (g : Gm) (M : Mem) (t : Nat) (hi : Inv (M 225) t) (ht : t ≤ 99999) (x k w : Int32) : Cn l yX8_would cX8_would 6 (some .int) 6 136 g [.ref (ad g 224), .int x, .int k, .int w] M (fun v M2 => v = some (.int (oWould (M 225) x k w)) ∧ back110 M M2) := by
  refine Cn.intro (lv0 := [some (.ref (ad g 224)), some (.int x), some (.int k), some (.int w), none, none]) 2 (by decide +kernel) (Nat.le_of_ble_eq_true rfl) rfl (fun X F r => ?_)
  have k224 := kd224
  have k225 := kd225
  have hn := hi.cn_le
  have hm := hi.gn_le
  refine g_aload_n (pc := 0) F dX8_would_0 rfl ?_
  refine g_iload_n (pc := 1) F dX8_would_1 rfl ?_
  refine g_callV (pc := 2) (rf2 := 0) (rl2 := 0) F cs_X8_93 k224 rfl (by decide) (by rfl) (by rfl) (Nat.le_of_ble_eq_true (by rfl)) (by decide) dX8_would_2 (c_X8_isClock _ g _ x) (fun v M2 hz => ?_)
  obtain ⟨rfl, h2⟩ := hz
  rw [h2]
  refine g_if_eq (pc := 5) (tgt := 28) F dX8_would_5 (by decide) (fun c5 => ?_) (fun c5 => ?_)
  · refine g_ldc (pc := 28) F wk_X8_88 dX8_would_28 ?_
    refine g_iret (pc := 30) F r dX8_would_30 ?_
    have e : oWould (M 225) x k w = -1000001 := if_neg (fun q => b2i_0 c5 q.2.2)
    rw [e]
    exact ⟨rfl, fun _ _ => rfl, fun _ _ _ => rfl⟩
  · refine g_iload_n (pc := 8) F dX8_would_8 rfl ?_
    refine g_iconst (pc := 9) (v := 1) F dX8_would_9 (by decide) ?_
    refine g_sipush (pc := 10) (v := 200) F dX8_would_10 (by decide) ?_
    refine g_callS (pc := 13) (rf2 := 0) (rl2 := 0) F cs_X8_80 (by rfl) (by rfl) (Nat.le_of_ble_eq_true (by rfl)) (by decide) dX8_would_13 (c_X8_in _ g _ k 1 200) (fun v M2 hz => ?_)
    obtain ⟨rfl, h2⟩ := hz
    rw [h2]
    refine g_if_eq (pc := 16) (tgt := 28) F dX8_would_16 (by decide) (fun c16 => ?_) (fun c16 => ?_)
    · refine g_ldc (pc := 28) F wk_X8_88 dX8_would_28 ?_
      refine g_iret (pc := 30) F r dX8_would_30 ?_
      have e : oWould (M 225) x k w = -1000001 := if_neg (fun q => b2i_0 c16 q.1)
      rw [e]
      exact ⟨rfl, fun _ _ => rfl, fun _ _ _ => rfl⟩
    · refine g_iload_n (pc := 19) F dX8_would_19 rfl ?_
      refine g_iconst (pc := 20) (v := 0) F dX8_would_20 (by decide) ?_
      refine g_iconst (pc := 21) (v := 3) F dX8_would_21 (by decide) ?_
      refine g_callS (pc := 22) (rf2 := 0) (rl2 := 0) F cs_X8_80 (by rfl) (by rfl) (Nat.le_of_ble_eq_true (by rfl)) (by decide) dX8_would_22 (c_X8_in _ g _ w 0 3) (fun v M2 hz => ?_)
      obtain ⟨rfl, h2⟩ := hz
      rw [h2]
      refine g_if_ne (pc := 25) (tgt := 31) F dX8_would_25 (by decide) (fun c25 => ?_) (fun c25 => ?_)
      · obtain ⟨i, hin, hx⟩ := inC_ex hi (b2i_1 c5)
        obtain ⟨kn, kn1, kn2, hkn⟩ := ticksP_nI (b2i_1 c16)
        have k228 := kd228
        refine g_aload_n (pc := 31) F dX8_would_31 rfl ?_
        refine g_getr (pc := 32) F fl_X8_7 (by assumption) rfl dX8_would_32 ?_
        refine g_aload_n (pc := 35) F dX8_would_35 rfl ?_
        refine g_getr (pc := 36) F fl_X8_19 (by assumption) rfl dX8_would_36 ?_
        refine g_callS (pc := 39) (rf2 := 0) (rl2 := 0) F cs_X8_137 (by rfl) (by rfl) (Nat.le_of_ble_eq_true (by rfl)) (by decide) dX8_would_39 (c_X8_copies _ g _ 225 228 k225 k228 (by decide)) (fun v M2 hz => ?_)
        obtain ⟨rfl, h2⟩ := hz
        rw [h2]
        refine g_aload_n (pc := 42) F dX8_would_42 rfl ?_
        refine g_iload_n (pc := 43) F dX8_would_43 rfl ?_
        refine g_stk (st' := [.int (nI kn), .ref (ad g 224)]) (by rw [hkn] <;> rfl) ?_
        refine g_callV (pc := 44) (rf2 := 5) (rl2 := 113) F cs_X8_98 k224 rfl (by decide) (by rfl) (by rfl) (Nat.le_of_ble_eq_true (by rfl)) (by decide) dX8_would_44 (c_X8_endsFor _ g _ t (by rw [updr_ne _ _ (by decide)]; exact hi) kn kn2 (by omega)) (fun v M2 hz => ?_)
        obtain ⟨rfl, h2⟩ := hz
        rw [h2, updr_ne M _ (show (225 : Nat) ≠ 228 by decide)]
        refine g_istore (pc := 47) F dX8_would_47 (by decide) rfl ?_
        refine g_iload_n (pc := 49) F dX8_would_49 rfl ?_
        refine g_if_ne (pc := 50) (tgt := 63) F dX8_would_50 (by decide) (fun c50 => ?_) (fun c50 => ?_)
        · refine g_iload_n (pc := 63) F dX8_would_63 rfl ?_
          refine g_iconst (pc := 64) (v := 1) F dX8_would_64 (by decide) ?_
          refine g_icmp_ne (pc := 65) (tgt := 76) F dX8_would_65 (by decide) (fun c65 => ?_) (fun c65 => ?_)
          · refine g_iload_n (pc := 76) F dX8_would_76 rfl ?_
            refine g_iconst (pc := 77) (v := 2) F dX8_would_77 (by decide) ?_
            refine g_icmp_ne (pc := 78) (tgt := 91) F dX8_would_78 (by decide) (fun c78 => ?_) (fun c78 => ?_)
            · refine g_aload_n (pc := 91) F dX8_would_91 rfl ?_
              refine g_iload_n (pc := 92) F dX8_would_92 rfl ?_
              refine g_bipush (pc := 93) (v := 6) F dX8_would_93 (by decide) ?_
              refine g_stk (st' := [.int (nI 6), .int (nI i), .ref (ad g 224)]) (by rw [hx] <;> rfl) ?_
              refine g_callV (pc := 95) (rf2 := 0) (rl2 := 0) F cs_X8_36 k224 rfl (by decide) (by rfl) (by rfl) (Nat.le_of_ble_eq_true (by rfl)) (by decide) dX8_would_95 (c_X8_of _ g _ i (by omega) 6 (by decide)) (fun v M2 hz => ?_)
              obtain ⟨rfl, h2⟩ := hz
              rw [h2]
              refine g_istore (pc := 98) F dX8_would_98 (by decide) rfl ?_
              refine g_aload_n (pc := 100) F dX8_would_100 rfl ?_
              refine g_getr (pc := 101) F fl_X8_19 (by assumption) rfl dX8_would_101 ?_
              refine g_aload_n (pc := 104) F dX8_would_104 rfl ?_
              refine g_getr (pc := 105) F fl_X8_7 (by assumption) rfl dX8_would_105 ?_
              refine g_callS (pc := 108) (rf2 := 0) (rl2 := 0) F cs_X8_137 (by rfl) (by rfl) (Nat.le_of_ble_eq_true (by rfl)) (by decide) dX8_would_108 (c_X8_copies _ g _ 228 225 k228 k225 (by decide)) (fun v M2 hz => ?_)
              obtain ⟨rfl, h2⟩ := hz
              rw [h2]
              have hB : back110 M (updr (updr (updr M 228 (cpyF (M 225) (M 228) 110)) 225 (endsN (M 225) kn).2) 225 (cpyF (updr (updr M 228 (cpyF (M 225) (M 228) 110)) 225 (endsN (M 225) kn).2 228) (updr (updr M 228 (cpyF (M 225) (M 228) 110)) 225 (endsN (M 225) kn).2 225) 110)) := by
                refine ⟨fun k hk => ?_, fun a h1 h2 => ?_⟩
                · rw [updr_self, cpyF_lt _ _ _ hk, updr_ne _ _ (show (228 : Nat) ≠ 225 by decide), updr_self, cpyF_lt _ _ _ hk]
                · rw [updr_ne _ _ h1, updr_ne _ _ h1, updr_ne _ _ h2]
              refine g_iload_n (pc := 111) F dX8_would_111 rfl ?_
              refine g_iconst (pc := 112) (v := 2) F dX8_would_112 (by decide) ?_
              refine g_icmp_ne (pc := 113) (tgt := 129) F dX8_would_113 (by decide) (fun c113 => ?_) (fun c113 => ?_)
              · refine g_iload (pc := 129) F dX8_would_129 rfl ?_
                refine g_iret (pc := 131) F r dX8_would_131 ?_
                have e : oWould (M 225) x k w = cw (endsN (M 225) kn).2 i 6 := by
                  unfold oWould
                  rw [if_pos ⟨b2i_1 c16, b2i_1 c25, b2i_1 c5⟩, if_neg c50, if_neg c65, if_neg c78, hkn, ixN_nI (by omega), hx, ixN_nI (by omega)]
                rw [e]
                refine ⟨?_, hB⟩
                rw [updr_self]
                rfl
              · exact absurd c113 c78
            · refine g_aload_n (pc := 81) F dX8_would_81 rfl ?_
              refine g_iload_n (pc := 82) F dX8_would_82 rfl ?_
              refine g_bipush (pc := 83) (v := 8) F dX8_would_83 (by decide) ?_
              refine g_stk (st' := [.int (nI 8), .int (nI i), .ref (ad g 224)]) (by rw [hx] <;> rfl) ?_
              refine g_callV (pc := 85) (rf2 := 0) (rl2 := 0) F cs_X8_36 k224 rfl (by decide) (by rfl) (by rfl) (Nat.le_of_ble_eq_true (by rfl)) (by decide) dX8_would_85 (c_X8_of _ g _ i (by omega) 8 (by decide)) (fun v M2 hz => ?_)
              obtain ⟨rfl, h2⟩ := hz
              rw [h2]
              refine g_goto (pc := 88) (tgt := 98) F dX8_would_88 (by decide) ?_
              refine g_istore (pc := 98) F dX8_would_98 (by decide) rfl ?_
              refine g_aload_n (pc := 100) F dX8_would_100 rfl ?_
              refine g_getr (pc := 101) F fl_X8_19 (by assumption) rfl dX8_would_101 ?_
              refine g_aload_n (pc := 104) F dX8_would_104 rfl ?_
              refine g_getr (pc := 105) F fl_X8_7 (by assumption) rfl dX8_would_105 ?_
              refine g_callS (pc := 108) (rf2 := 0) (rl2 := 0) F cs_X8_137 (by rfl) (by rfl) (Nat.le_of_ble_eq_true (by rfl)) (by decide) dX8_would_108 (c_X8_copies _ g _ 228 225 k228 k225 (by decide)) (fun v M2 hz => ?_)
              obtain ⟨rfl, h2⟩ := hz
              rw [h2]
              have hB : back110 M (updr (updr (updr M 228 (cpyF (M 225) (M 228) 110)) 225 (endsN (M 225) kn).2) 225 (cpyF (updr (updr M 228 (cpyF (M 225) (M 228) 110)) 225 (endsN (M 225) kn).2 228) (updr (updr M 228 (cpyF (M 225) (M 228) 110)) 225 (endsN (M 225) kn).2 225) 110)) := by
                refine ⟨fun k hk => ?_, fun a h1 h2 => ?_⟩
                · rw [updr_self, cpyF_lt _ _ _ hk, updr_ne _ _ (show (228 : Nat) ≠ 225 by decide), updr_self, cpyF_lt _ _ _ hk]
                · rw [updr_ne _ _ h1, updr_ne _ _ h1, updr_ne _ _ h2]
              refine g_iload_n (pc := 111) F dX8_would_111 rfl ?_
              refine g_iconst (pc := 112) (v := 2) F dX8_would_112 (by decide) ?_
              refine g_icmp_ne (pc := 113) (tgt := 129) F dX8_would_113 (by decide) (fun c113 => ?_) (fun c113 => ?_)
              · exact absurd c78 c113
              · refine g_iload (pc := 116) F dX8_would_116 rfl ?_
                refine g_aload_n (pc := 118) F dX8_would_118 rfl ?_
                refine g_iload_n (pc := 119) F dX8_would_119 rfl ?_
                refine g_bipush (pc := 120) (v := 8) F dX8_would_120 (by decide) ?_
                refine g_stk (st' := [.int (nI 8), .int (nI i), .ref (ad g 224), .int _]) (by rw [hx] <;> rfl) ?_
                refine g_callV (pc := 122) (rf2 := 0) (rl2 := 0) F cs_X8_36 k224 rfl (by decide) (by rfl) (by rfl) (Nat.le_of_ble_eq_true (by rfl)) (by decide) dX8_would_122 (c_X8_of _ g _ i (by omega) 8 (by decide)) (fun v M2 hz => ?_)
                obtain ⟨rfl, h2⟩ := hz
                rw [h2]
                refine g_isub (pc := 125) F dX8_would_125 ?_
                refine g_goto (pc := 126) (tgt := 131) F dX8_would_126 (by decide) ?_
                refine g_iret (pc := 131) F r dX8_would_131 ?_
                have e : oWould (M 225) x k w = cw (endsN (M 225) kn).2 i 8 - cw (M 225) i 8 := by
                  unfold oWould
                  rw [if_pos ⟨b2i_1 c16, b2i_1 c25, b2i_1 c5⟩, if_neg c50, if_neg c65, if_pos c78, hkn, ixN_nI (by omega), hx, ixN_nI (by omega)]
                rw [e]
                refine ⟨?_, hB⟩
                rw [hB.1 (4 + 15 * i + 8) (by omega), updr_self]
                rfl
          · refine g_aload_n (pc := 68) F dX8_would_68 rfl ?_
            refine g_iload_n (pc := 69) F dX8_would_69 rfl ?_
            refine g_stk (st' := [.int (nI i), .ref (ad g 224)]) (by rw [hx] <;> rfl) ?_
            refine g_callV (pc := 70) (rf2 := 1) (rl2 := 22) F cs_X8_61 k224 rfl (by decide) (by rfl) (by rfl) (Nat.le_of_ble_eq_true (by rfl)) (by decide) dX8_would_70 (c_X8_rest _ g _ i (by omega)) (fun v M2 hz => ?_)
            obtain ⟨rfl, h2⟩ := hz
            rw [h2]
            refine g_goto (pc := 73) (tgt := 98) F dX8_would_73 (by decide) ?_
            refine g_istore (pc := 98) F dX8_would_98 (by decide) rfl ?_
            refine g_aload_n (pc := 100) F dX8_would_100 rfl ?_
            refine g_getr (pc := 101) F fl_X8_19 (by assumption) rfl dX8_would_101 ?_
            refine g_aload_n (pc := 104) F dX8_would_104 rfl ?_
            refine g_getr (pc := 105) F fl_X8_7 (by assumption) rfl dX8_would_105 ?_
            refine g_callS (pc := 108) (rf2 := 0) (rl2 := 0) F cs_X8_137 (by rfl) (by rfl) (Nat.le_of_ble_eq_true (by rfl)) (by decide) dX8_would_108 (c_X8_copies _ g _ 228 225 k228 k225 (by decide)) (fun v M2 hz => ?_)
            obtain ⟨rfl, h2⟩ := hz
            rw [h2]
            have hB : back110 M (updr (updr (updr M 228 (cpyF (M 225) (M 228) 110)) 225 (endsN (M 225) kn).2) 225 (cpyF (updr (updr M 228 (cpyF (M 225) (M 228) 110)) 225 (endsN (M 225) kn).2 228) (updr (updr M 228 (cpyF (M 225) (M 228) 110)) 225 (endsN (M 225) kn).2 225) 110)) := by
              refine ⟨fun k hk => ?_, fun a h1 h2 => ?_⟩
              · rw [updr_self, cpyF_lt _ _ _ hk, updr_ne _ _ (show (228 : Nat) ≠ 225 by decide), updr_self, cpyF_lt _ _ _ hk]
              · rw [updr_ne _ _ h1, updr_ne _ _ h1, updr_ne _ _ h2]
            refine g_iload_n (pc := 111) F dX8_would_111 rfl ?_
            refine g_iconst (pc := 112) (v := 2) F dX8_would_112 (by decide) ?_
            refine g_icmp_ne (pc := 113) (tgt := 129) F dX8_would_113 (by decide) (fun c113 => ?_) (fun c113 => ?_)
            · refine g_iload (pc := 129) F dX8_would_129 rfl ?_
              refine g_iret (pc := 131) F r dX8_would_131 ?_
              have e : oWould (M 225) x k w = restW (endsN (M 225) kn).2 i := by
                unfold oWould
                rw [if_pos ⟨b2i_1 c16, b2i_1 c25, b2i_1 c5⟩, if_neg c50, if_pos c65, hkn, ixN_nI (by omega), hx, ixN_nI (by omega)]
              rw [e]
              refine ⟨?_, hB⟩
              rw [updr_self]
            · exact absurd (c65.symm.trans c113) (by decide)
        · refine g_aload_n (pc := 53) F dX8_would_53 rfl ?_
          refine g_iload_n (pc := 54) F dX8_would_54 rfl ?_
          refine g_bipush (pc := 55) (v := 7) F dX8_would_55 (by decide) ?_
          refine g_stk (st' := [.int (nI 7), .int (nI i), .ref (ad g 224)]) (by rw [hx] <;> rfl) ?_
          refine g_callV (pc := 57) (rf2 := 0) (rl2 := 0) F cs_X8_36 k224 rfl (by decide) (by rfl) (by rfl) (Nat.le_of_ble_eq_true (by rfl)) (by decide) dX8_would_57 (c_X8_of _ g _ i (by omega) 7 (by decide)) (fun v M2 hz => ?_)
          obtain ⟨rfl, h2⟩ := hz
          rw [h2]
          refine g_goto (pc := 60) (tgt := 98) F dX8_would_60 (by decide) ?_
          refine g_istore (pc := 98) F dX8_would_98 (by decide) rfl ?_
          refine g_aload_n (pc := 100) F dX8_would_100 rfl ?_
          refine g_getr (pc := 101) F fl_X8_19 (by assumption) rfl dX8_would_101 ?_
          refine g_aload_n (pc := 104) F dX8_would_104 rfl ?_
          refine g_getr (pc := 105) F fl_X8_7 (by assumption) rfl dX8_would_105 ?_
          refine g_callS (pc := 108) (rf2 := 0) (rl2 := 0) F cs_X8_137 (by rfl) (by rfl) (Nat.le_of_ble_eq_true (by rfl)) (by decide) dX8_would_108 (c_X8_copies _ g _ 228 225 k228 k225 (by decide)) (fun v M2 hz => ?_)
          obtain ⟨rfl, h2⟩ := hz
          rw [h2]
          have hB : back110 M (updr (updr (updr M 228 (cpyF (M 225) (M 228) 110)) 225 (endsN (M 225) kn).2) 225 (cpyF (updr (updr M 228 (cpyF (M 225) (M 228) 110)) 225 (endsN (M 225) kn).2 228) (updr (updr M 228 (cpyF (M 225) (M 228) 110)) 225 (endsN (M 225) kn).2 225) 110)) := by
            refine ⟨fun k hk => ?_, fun a h1 h2 => ?_⟩
            · rw [updr_self, cpyF_lt _ _ _ hk, updr_ne _ _ (show (228 : Nat) ≠ 225 by decide), updr_self, cpyF_lt _ _ _ hk]
            · rw [updr_ne _ _ h1, updr_ne _ _ h1, updr_ne _ _ h2]
          refine g_iload_n (pc := 111) F dX8_would_111 rfl ?_
          refine g_iconst (pc := 112) (v := 2) F dX8_would_112 (by decide) ?_
          refine g_icmp_ne (pc := 113) (tgt := 129) F dX8_would_113 (by decide) (fun c113 => ?_) (fun c113 => ?_)
          · refine g_iload (pc := 129) F dX8_would_129 rfl ?_
            refine g_iret (pc := 131) F r dX8_would_131 ?_
            have e : oWould (M 225) x k w = cw (endsN (M 225) kn).2 i 7 := by
              unfold oWould
              rw [if_pos ⟨b2i_1 c16, b2i_1 c25, b2i_1 c5⟩, if_pos c50, hkn, ixN_nI (by omega), hx, ixN_nI (by omega)]
            rw [e]
            refine ⟨?_, hB⟩
            rw [updr_self]
            rfl
          · exact absurd (c50.symm.trans c113) (by decide)
      · skip
        refine g_ldc (pc := 28) F wk_X8_88 dX8_would_28 ?_
        refine g_iret (pc := 30) F r dX8_would_30 ?_
        have e : oWould (M 225) x k w = -1000001 := if_neg (fun q => b2i_0 c25 q.2.1)
        rw [e]
        exact ⟨rfl, fun _ _ => rfl, fun _ _ _ => rfl⟩

