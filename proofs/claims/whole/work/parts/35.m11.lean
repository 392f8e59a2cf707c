/-! the check: what it tells -/
theorem restW_nn {S : SV} {t : Nat} (hi : Inv S t) {i : Nat} (h : i < cn S) : ¬ restW S i < 0 := by
  obtain ⟨la, a, b, c, d, p, gp, ag, sm, sq, hL, h5, hp, h6, g1, g2, h7, ga, -⟩ := hi.2.2.2.2.2.1 i h
  show ¬ cw S i 6 - cw S i 7 < 0
  rw [h6, h7, nI_sub (by omega)]
  exact nI_nneg (by omega)
theorem leastW_nn {S : SV} {t : Nat} (hi : Inv S t) (z : Int32) : ∀ i, i ≤ cn S → leastW S z i = -1000004 ∨ ¬ leastW S z i < 0 := by
  intro i
  induction i with
  | zero => intro _; exact Or.inl rfl
  | succ i ih =>
    intro h
    by_cases hc : isIn z i ∧ (leastW S z i = -1000004 ∨ restW S i < leastW S z i)
    · have e : leastW S z (i + 1) = restW S i := if_pos hc
      rw [e]
      exact Or.inr (restW_nn hi (by omega))
    · have e : leastW S z (i + 1) = leastW S z i := if_neg hc
      rw [e]
      exact ih (by omega)
theorem ior_0 (x : Int32) : x ||| 0 = x := Int32.or_zero
set_option maxHeartbeats 4000000 in
set_option maxRecDepth 100000 in
theorem c_X8_ending (l : Launch) (g : Gm) (M : Mem) (t : Nat) (hi : Inv (M 225) t) : Cn l yX8_ending cX8_ending 3 (some .int) 2 43 g [.ref (ad g 224)] M (fun v M2 => v = some (.int (aboutW (M 225) (cn (M 225)))) ∧ M2 = M) := by
  refine Cn.intro (lv0 := [some (.ref (ad g 224)), none, none]) 2 (by decide +kernel) (Nat.le_of_ble_eq_true rfl) rfl (fun X F r => ?_)
  have k224 := kd224
  have k225 := kd225
  have hn := hi.cn_le
  have hm := hi.gn_le
  refine g_iconst (pc := 0) (v := 0) F dX8_ending_0 (by decide) ?_
  refine g_istore_n (pc := 1) F dX8_ending_1 (by decide) rfl ?_
  refine g_iconst (pc := 2) (v := 0) F dX8_ending_2 (by decide) ?_
  refine g_istore_n (pc := 3) F dX8_ending_3 (by decide) rfl ?_
  have L : ∀ (n i : Nat) (y : Int32), i + n = cn (M 225) → y = nI i → G X g 3 M 4 [some (.ref (ad g 224)), some (.int (aboutW (M 225) i)), some (.int y)] [] := by
    intro n
    induction n with
    | zero =>
      intro i y hin hy
      obtain rfl : i = cn (M 225) := by omega
      refine g_iload_n (pc := 4) F dX8_ending_4 rfl ?_
      refine g_aload_n (pc := 5) F dX8_ending_5 rfl ?_
      refine g_getr (pc := 6) F fl_X8_7 (by assumption) rfl dX8_ending_6 ?_
      refine g_iconst (pc := 9) (v := 0) F dX8_ending_9 (by decide) ?_
      refine g_iald (pc := 10) (q := 0) F k225 rfl (by decide) (by decide) dX8_ending_10 ?_
      refine g_icmp_ge (pc := 11) (tgt := 39) F dX8_ending_11 (by decide) (fun c11 => ?_) (fun c11 => ?_)
      · refine g_iload_n (pc := 39) F dX8_ending_39 rfl ?_
        refine g_iret (pc := 40) F r dX8_ending_40 ?_
        exact ⟨rfl, rfl⟩
      · exact absurd (by rw [hn.2, hy]; exact nI_le (by omega) (by omega)) c11
    | succ n ih =>
      intro i y hin hy
      refine g_iload_n (pc := 4) F dX8_ending_4 rfl ?_
      refine g_aload_n (pc := 5) F dX8_ending_5 rfl ?_
      refine g_getr (pc := 6) F fl_X8_7 (by assumption) rfl dX8_ending_6 ?_
      refine g_iconst (pc := 9) (v := 0) F dX8_ending_9 (by decide) ?_
      refine g_iald (pc := 10) (q := 0) F k225 rfl (by decide) (by decide) dX8_ending_10 ?_
      refine g_icmp_ge (pc := 11) (tgt := 39) F dX8_ending_11 (by decide) (fun c11 => ?_) (fun c11 => ?_)
      · exact absurd c11 (by rw [hn.2, hy]; exact nI_ge (by omega) (by omega))
      · refine g_iload_n (pc := 14) F dX8_ending_14 rfl ?_
        refine g_aload_n (pc := 15) F dX8_ending_15 rfl ?_
        refine g_iload_n (pc := 16) F dX8_ending_16 rfl ?_
        refine g_stk (st' := [.int (nI i), .ref (ad g 224), .int (aboutW (M 225) i)]) (by rw [hy] <;> rfl) ?_
        refine g_callV (pc := 17) (rf2 := 1) (rl2 := 22) F cs_X8_61 k224 rfl (by decide) (by rfl) (by rfl) (Nat.le_of_ble_eq_true (by rfl)) (by decide) dX8_ending_17 (c_X8_rest _ g _ i (by omega)) (fun v M2 hz => ?_)
        obtain ⟨rfl, h2⟩ := hz
        rw [h2]
        refine g_iconst (pc := 20) (v := 1) F dX8_ending_20 (by decide) ?_
        refine g_icmp_ne (pc := 21) (tgt := 30) F dX8_ending_21 (by decide) (fun c21 => ?_) (fun c21 => ?_)
        · refine g_iconst (pc := 30) (v := 0) F dX8_ending_30 (by decide) ?_
          refine g_ior (pc := 31) F dX8_ending_31 ?_
          refine g_istore_n (pc := 32) F dX8_ending_32 (by decide) rfl ?_
          refine g_iinc (pc := 33) F dX8_ending_33 rfl rfl (by decide) rfl ?_
          refine g_goto (pc := 36) (tgt := 4) F dX8_ending_36 (by decide) ?_
          refine G.sub [some (.ref (ad g 224)), some (.int (aboutW (M 225) (i + 1))), some (.int (y + Int32.ofInt 1))] ⟨rfl, ?_, rfl, trivial⟩ (ih (i + 1) _ (by omega) (by rw [hy]; exact nI_1 i))
          show some (Value.int _) = some (Value.int (if restW (M 225) i = 1 then _ else _))
          rw [if_neg c21]
          exact congrArg (fun q => some (Value.int q)) (ior_0 _)
        · refine g_iconst (pc := 24) (v := 1) F dX8_ending_24 (by decide) ?_
          refine g_iload_n (pc := 25) F dX8_ending_25 rfl ?_
          refine g_ishl (pc := 26) F dX8_ending_26 ?_
          refine g_goto (pc := 27) (tgt := 31) F dX8_ending_27 (by decide) ?_
          refine g_ior (pc := 31) F dX8_ending_31 ?_
          refine g_istore_n (pc := 32) F dX8_ending_32 (by decide) rfl ?_
          refine g_iinc (pc := 33) F dX8_ending_33 rfl rfl (by decide) rfl ?_
          refine g_goto (pc := 36) (tgt := 4) F dX8_ending_36 (by decide) ?_
          refine G.sub [some (.ref (ad g 224)), some (.int (aboutW (M 225) (i + 1))), some (.int (y + Int32.ofInt 1))] ⟨rfl, ?_, rfl, trivial⟩ (ih (i + 1) _ (by omega) (by rw [hy]; exact nI_1 i))
          show some (Value.int _) = some (Value.int (if restW (M 225) i = 1 then _ else _))
          rw [if_pos c21, hy]
  
  exact L (cn (M 225)) 0 _ (by omega) nI0

set_option maxHeartbeats 4000000 in
set_option maxRecDepth 100000 in
theorem c_X8_oldest (l : Launch) (g : Gm) (M : Mem) (t : Nat) (hi : Inv (M 225) t) : Cn l yX8_oldest cX8_oldest 3 (some .int) 1 22 g [.ref (ad g 224)] M (fun v M2 => v = some (.int (oldestW (M 225) (cn (M 225)))) ∧ M2 = M) := by
  refine Cn.intro (lv0 := [some (.ref (ad g 224)), none, none]) 2 (by decide +kernel) (Nat.le_of_ble_eq_true rfl) rfl (fun X F r => ?_)
  have k224 := kd224
  have k225 := kd225
  have hn := hi.cn_le
  have hm := hi.gn_le
  refine g_ldc (pc := 0) F wk_X8_109 dX8_oldest_0 ?_
  refine g_istore_n (pc := 2) F dX8_oldest_2 (by decide) rfl ?_
  refine g_iconst (pc := 3) (v := 0) F dX8_oldest_3 (by decide) ?_
  refine g_istore_n (pc := 4) F dX8_oldest_4 (by decide) rfl ?_
  have L : ∀ (n i : Nat) (y : Int32), i + n = cn (M 225) → y = nI i → G X g 3 M 5 [some (.ref (ad g 224)), some (.int (oldestW (M 225) i)), some (.int y)] [] := by
    intro n
    induction n with
    | zero =>
      intro i y hin hy
      obtain rfl : i = cn (M 225) := by omega
      refine g_iload_n (pc := 5) F dX8_oldest_5 rfl ?_
      refine g_aload_n (pc := 6) F dX8_oldest_6 rfl ?_
      refine g_getr (pc := 7) F fl_X8_7 (by assumption) rfl dX8_oldest_7 ?_
      refine g_iconst (pc := 10) (v := 0) F dX8_oldest_10 (by decide) ?_
      refine g_iald (pc := 11) (q := 0) F k225 rfl (by decide) (by decide) dX8_oldest_11 ?_
      refine g_icmp_ge (pc := 12) (tgt := 44) F dX8_oldest_12 (by decide) (fun c12 => ?_) (fun c12 => ?_)
      · refine g_iload_n (pc := 44) F dX8_oldest_44 rfl ?_
        refine g_iret (pc := 45) F r dX8_oldest_45 ?_
        exact ⟨rfl, rfl⟩
      · exact absurd (by rw [hn.2, hy]; exact nI_le (by omega) (by omega)) c12
    | succ n ih =>
      intro i y hin hy
      refine g_iload_n (pc := 5) F dX8_oldest_5 rfl ?_
      refine g_aload_n (pc := 6) F dX8_oldest_6 rfl ?_
      refine g_getr (pc := 7) F fl_X8_7 (by assumption) rfl dX8_oldest_7 ?_
      refine g_iconst (pc := 10) (v := 0) F dX8_oldest_10 (by decide) ?_
      refine g_iald (pc := 11) (q := 0) F k225 rfl (by decide) (by decide) dX8_oldest_11 ?_
      refine g_icmp_ge (pc := 12) (tgt := 44) F dX8_oldest_12 (by decide) (fun c12 => ?_) (fun c12 => ?_)
      · exact absurd c12 (by rw [hn.2, hy]; exact nI_ge (by omega) (by omega))
      · refine g_aload_n (pc := 15) F dX8_oldest_15 rfl ?_
        refine g_iload_n (pc := 16) F dX8_oldest_16 rfl ?_
        refine g_bipush (pc := 17) (v := 7) F dX8_oldest_17 (by decide) ?_
        refine g_stk (st' := [.int (nI 7), .int (nI i), .ref (ad g 224)]) (by rw [hy] <;> rfl) ?_
        refine g_callV (pc := 19) (rf2 := 0) (rl2 := 0) F cs_X8_36 k224 rfl (by decide) (by rfl) (by rfl) (Nat.le_of_ble_eq_true (by rfl)) (by decide) dX8_oldest_19 (c_X8_of _ g _ i (by omega) 7 (by decide)) (fun v M2 hz => ?_)
        obtain ⟨rfl, h2⟩ := hz
        rw [h2]
        refine g_iload_n (pc := 22) F dX8_oldest_22 rfl ?_
        refine g_icmp_le (pc := 23) (tgt := 36) F dX8_oldest_23 (by decide) (fun c23 => ?_) (fun c23 => ?_)
        · have c23 : cw (M 225) i 7 ≤ oldestW (M 225) i := c23
          refine g_iload_n (pc := 36) F dX8_oldest_36 rfl ?_
          refine g_istore_n (pc := 37) F dX8_oldest_37 (by decide) rfl ?_
          refine g_iinc (pc := 38) F dX8_oldest_38 rfl rfl (by decide) rfl ?_
          refine g_goto (pc := 41) (tgt := 5) F dX8_oldest_41 (by decide) ?_
          refine G.sub [some (.ref (ad g 224)), some (.int (oldestW (M 225) (i + 1))), some (.int (y + Int32.ofInt 1))] ⟨rfl, ?_, rfl, trivial⟩ (ih (i + 1) _ (by omega) (by rw [hy]; exact nI_1 i))
          show some (Value.int _) = some (Value.int (if oldestW (M 225) i < cw (M 225) i 7 then _ else _))
          rw [if_neg (fun e => Int32.not_lt.mpr c23 e)]
        · have c23 : ¬ cw (M 225) i 7 ≤ oldestW (M 225) i := c23
          refine g_aload_n (pc := 26) F dX8_oldest_26 rfl ?_
          refine g_iload_n (pc := 27) F dX8_oldest_27 rfl ?_
          refine g_bipush (pc := 28) (v := 7) F dX8_oldest_28 (by decide) ?_
          refine g_stk (st' := [.int (nI 7), .int (nI i), .ref (ad g 224)]) (by rw [hy] <;> rfl) ?_
          refine g_callV (pc := 30) (rf2 := 0) (rl2 := 0) F cs_X8_36 k224 rfl (by decide) (by rfl) (by rfl) (Nat.le_of_ble_eq_true (by rfl)) (by decide) dX8_oldest_30 (c_X8_of _ g _ i (by omega) 7 (by decide)) (fun v M2 hz => ?_)
          obtain ⟨rfl, h2⟩ := hz
          rw [h2]
          refine g_goto (pc := 33) (tgt := 37) F dX8_oldest_33 (by decide) ?_
          refine g_istore_n (pc := 37) F dX8_oldest_37 (by decide) rfl ?_
          refine g_iinc (pc := 38) F dX8_oldest_38 rfl rfl (by decide) rfl ?_
          refine g_goto (pc := 41) (tgt := 5) F dX8_oldest_41 (by decide) ?_
          refine G.sub [some (.ref (ad g 224)), some (.int (oldestW (M 225) (i + 1))), some (.int (y + Int32.ofInt 1))] ⟨rfl, ?_, rfl, trivial⟩ (ih (i + 1) _ (by omega) (by rw [hy]; exact nI_1 i))
          show some (Value.int _) = some (Value.int (if oldestW (M 225) i < cw (M 225) i 7 then _ else _))
          rw [if_pos (Int32.not_le.mp c23)]
          rfl
  
  exact L (cn (M 225)) 0 _ (by omega) nI0

set_option maxHeartbeats 4000000 in
set_option maxRecDepth 100000 in
theorem c_X8_sumIn (l : Launch) (g : Gm) (M : Mem) (t : Nat) (hi : Inv (M 225) t) (gi : Nat) (hg : gi < 4) (z : Nat) (hz6 : z < 64) (hz2 : M 225 (94 + 4 * gi + 1) = nI z) : Cn l yX8_sumIn cX8_sumIn 4 (some .int) 2 44 g [.ref (ad g 224), .int (nI gi)] M (fun v M2 => v = some (.int (sumW (M 225) (nI z) 9 (cn (M 225)))) ∧ M2 = M) := by
  refine Cn.intro (lv0 := [some (.ref (ad g 224)), some (.int (nI gi)), none, none]) 2 (by decide +kernel) (Nat.le_of_ble_eq_true rfl) rfl (fun X F r => ?_)
  have k224 := kd224
  have k225 := kd225
  have hn := hi.cn_le
  have hm := hi.gn_le
  refine g_iconst (pc := 0) (v := 0) F dX8_sumIn_0 (by decide) ?_
  refine g_istore_n (pc := 1) F dX8_sumIn_1 (by decide) rfl ?_
  refine g_iconst (pc := 2) (v := 0) F dX8_sumIn_2 (by decide) ?_
  refine g_istore_n (pc := 3) F dX8_sumIn_3 (by decide) rfl ?_
  have L : ∀ (n i : Nat) (y : Int32), i + n = cn (M 225) → y = nI i → G X g 4 M 4 [some (.ref (ad g 224)), some (.int (nI gi)), some (.int (sumW (M 225) (nI z) 9 i)), some (.int y)] [] := by
    intro n
    induction n with
    | zero =>
      intro i y hin hy
      obtain rfl : i = cn (M 225) := by omega
      refine g_iload_n (pc := 4) F dX8_sumIn_4 rfl ?_
      refine g_aload_n (pc := 5) F dX8_sumIn_5 rfl ?_
      refine g_getr (pc := 6) F fl_X8_7 (by assumption) rfl dX8_sumIn_6 ?_
      refine g_iconst (pc := 9) (v := 0) F dX8_sumIn_9 (by decide) ?_
      refine g_iald (pc := 10) (q := 0) F k225 rfl (by decide) (by decide) dX8_sumIn_10 ?_
      refine g_icmp_ge (pc := 11) (tgt := 43) F dX8_sumIn_11 (by decide) (fun c11 => ?_) (fun c11 => ?_)
      · refine g_iload_n (pc := 43) F dX8_sumIn_43 rfl ?_
        refine g_iret (pc := 44) F r dX8_sumIn_44 ?_
        exact ⟨rfl, rfl⟩
      · exact absurd (by rw [hn.2, hy]; exact nI_le (by omega) (by omega)) c11
    | succ n ih =>
      intro i y hin hy
      refine g_iload_n (pc := 4) F dX8_sumIn_4 rfl ?_
      refine g_aload_n (pc := 5) F dX8_sumIn_5 rfl ?_
      refine g_getr (pc := 6) F fl_X8_7 (by assumption) rfl dX8_sumIn_6 ?_
      refine g_iconst (pc := 9) (v := 0) F dX8_sumIn_9 (by decide) ?_
      refine g_iald (pc := 10) (q := 0) F k225 rfl (by decide) (by decide) dX8_sumIn_10 ?_
      refine g_icmp_ge (pc := 11) (tgt := 43) F dX8_sumIn_11 (by decide) (fun c11 => ?_) (fun c11 => ?_)
      · exact absurd c11 (by rw [hn.2, hy]; exact nI_ge (by omega) (by omega))
      · refine g_iload_n (pc := 14) F dX8_sumIn_14 rfl ?_
        refine g_aload_n (pc := 15) F dX8_sumIn_15 rfl ?_
        refine g_iload_n (pc := 16) F dX8_sumIn_16 rfl ?_
        refine g_iload_n (pc := 17) F dX8_sumIn_17 rfl ?_
        refine g_stk (st' := [.int (nI i), .int (nI gi), .ref (ad g 224), .int (sumW (M 225) (nI z) 9 i)]) (by rw [hy] <;> rfl) ?_
        refine g_callV (pc := 18) (rf2 := 1) (rl2 := 22) F cs_X8_104 k224 rfl (by decide) (by rfl) (by rfl) (Nat.le_of_ble_eq_true (by rfl)) (by decide) dX8_sumIn_18 (c_X8_isIn _ g _ gi hg i (by omega) z hz6 hz2) (fun v M2 hz => ?_)
        obtain ⟨rfl, h2⟩ := hz
        rw [h2]
        refine g_if_eq (pc := 21) (tgt := 34) F dX8_sumIn_21 (by decide) (fun c21 => ?_) (fun c21 => ?_)
        · refine g_iconst (pc := 34) (v := 0) F dX8_sumIn_34 (by decide) ?_
          refine g_iadd (pc := 35) F dX8_sumIn_35 ?_
          refine g_istore_n (pc := 36) F dX8_sumIn_36 (by decide) rfl ?_
          refine g_iinc (pc := 37) F dX8_sumIn_37 rfl rfl (by decide) rfl ?_
          refine g_goto (pc := 40) (tgt := 4) F dX8_sumIn_40 (by decide) ?_
          refine G.sub [some (.ref (ad g 224)), some (.int (nI gi)), some (.int (sumW (M 225) (nI z) 9 (i + 1))), some (.int (y + Int32.ofInt 1))] ⟨rfl, rfl, ?_, rfl, trivial⟩ (ih (i + 1) _ (by omega) (by rw [hy]; exact nI_1 i))
          show some (Value.int _) = some (Value.int (if isIn (nI z) i then _ else _))
          rw [if_neg (b2i_0 c21), Int32.add_zero]
        · refine g_aload_n (pc := 24) F dX8_sumIn_24 rfl ?_
          refine g_iload_n (pc := 25) F dX8_sumIn_25 rfl ?_
          refine g_bipush (pc := 26) (v := 9) F dX8_sumIn_26 (by decide) ?_
          refine g_stk (st' := [.int (nI 9), .int (nI i), .ref (ad g 224), .int (sumW (M 225) (nI z) 9 i)]) (by rw [hy] <;> rfl) ?_
          refine g_callV (pc := 28) (rf2 := 0) (rl2 := 0) F cs_X8_36 k224 rfl (by decide) (by rfl) (by rfl) (Nat.le_of_ble_eq_true (by rfl)) (by decide) dX8_sumIn_28 (c_X8_of _ g _ i (by omega) 9 (by decide)) (fun v M2 hz => ?_)
          obtain ⟨rfl, h2⟩ := hz
          rw [h2]
          refine g_goto (pc := 31) (tgt := 35) F dX8_sumIn_31 (by decide) ?_
          refine g_iadd (pc := 35) F dX8_sumIn_35 ?_
          refine g_istore_n (pc := 36) F dX8_sumIn_36 (by decide) rfl ?_
          refine g_iinc (pc := 37) F dX8_sumIn_37 rfl rfl (by decide) rfl ?_
          refine g_goto (pc := 40) (tgt := 4) F dX8_sumIn_40 (by decide) ?_
          refine G.sub [some (.ref (ad g 224)), some (.int (nI gi)), some (.int (sumW (M 225) (nI z) 9 (i + 1))), some (.int (y + Int32.ofInt 1))] ⟨rfl, rfl, ?_, rfl, trivial⟩ (ih (i + 1) _ (by omega) (by rw [hy]; exact nI_1 i))
          show some (Value.int _) = some (Value.int (if isIn (nI z) i then _ else _))
          rw [if_pos (b2i_1 c21)]
          rfl
  
  exact L (cn (M 225)) 0 _ (by omega) nI0

set_option maxHeartbeats 4000000 in
set_option maxRecDepth 100000 in
theorem c_X8_leastRest (l : Launch) (g : Gm) (M : Mem) (t : Nat) (hi : Inv (M 225) t) (gi : Nat) (hg : gi < 4) (z : Nat) (hz6 : z < 64) (hz2 : M 225 (94 + 4 * gi + 1) = nI z) : Cn l yX8_leastRest cX8_leastRest 4 (some .int) 2 44 g [.ref (ad g 224), .int (nI gi)] M (fun v M2 => v = some (.int (leastW (M 225) (nI z) (cn (M 225)))) ∧ M2 = M) := by
  refine Cn.intro (lv0 := [some (.ref (ad g 224)), some (.int (nI gi)), none, none]) 2 (by decide +kernel) (Nat.le_of_ble_eq_true rfl) rfl (fun X F r => ?_)
  have k224 := kd224
  have k225 := kd225
  have hn := hi.cn_le
  have hm := hi.gn_le
  refine g_ldc (pc := 0) F wk_X8_109 dX8_leastRest_0 ?_
  refine g_istore_n (pc := 2) F dX8_leastRest_2 (by decide) rfl ?_
  refine g_iconst (pc := 3) (v := 0) F dX8_leastRest_3 (by decide) ?_
  refine g_istore_n (pc := 4) F dX8_leastRest_4 (by decide) rfl ?_
  have L : ∀ (n i : Nat) (y : Int32), i + n = cn (M 225) → y = nI i → G X g 4 M 5 [some (.ref (ad g 224)), some (.int (nI gi)), some (.int (leastW (M 225) (nI z) i)), some (.int y)] [] := by
    intro n
    induction n with
    | zero =>
      intro i y hin hy
      obtain rfl : i = cn (M 225) := by omega
      refine g_iload_n (pc := 5) F dX8_leastRest_5 rfl ?_
      refine g_aload_n (pc := 6) F dX8_leastRest_6 rfl ?_
      refine g_getr (pc := 7) F fl_X8_7 (by assumption) rfl dX8_leastRest_7 ?_
      refine g_iconst (pc := 10) (v := 0) F dX8_leastRest_10 (by decide) ?_
      refine g_iald (pc := 11) (q := 0) F k225 rfl (by decide) (by decide) dX8_leastRest_11 ?_
      refine g_icmp_ge (pc := 12) (tgt := 53) F dX8_leastRest_12 (by decide) (fun c12 => ?_) (fun c12 => ?_)
      · refine g_iload_n (pc := 53) F dX8_leastRest_53 rfl ?_
        refine g_iret (pc := 54) F r dX8_leastRest_54 ?_
        exact ⟨rfl, rfl⟩
      · exact absurd (by rw [hn.2, hy]; exact nI_le (by omega) (by omega)) c12
    | succ n ih =>
      intro i y hin hy
      refine g_iload_n (pc := 5) F dX8_leastRest_5 rfl ?_
      refine g_aload_n (pc := 6) F dX8_leastRest_6 rfl ?_
      refine g_getr (pc := 7) F fl_X8_7 (by assumption) rfl dX8_leastRest_7 ?_
      refine g_iconst (pc := 10) (v := 0) F dX8_leastRest_10 (by decide) ?_
      refine g_iald (pc := 11) (q := 0) F k225 rfl (by decide) (by decide) dX8_leastRest_11 ?_
      refine g_icmp_ge (pc := 12) (tgt := 53) F dX8_leastRest_12 (by decide) (fun c12 => ?_) (fun c12 => ?_)
      · exact absurd c12 (by rw [hn.2, hy]; exact nI_ge (by omega) (by omega))
      · refine g_aload_n (pc := 15) F dX8_leastRest_15 rfl ?_
        refine g_iload_n (pc := 16) F dX8_leastRest_16 rfl ?_
        refine g_iload_n (pc := 17) F dX8_leastRest_17 rfl ?_
        refine g_stk (st' := [.int (nI i), .int (nI gi), .ref (ad g 224)]) (by rw [hy] <;> rfl) ?_
        refine g_callV (pc := 18) (rf2 := 1) (rl2 := 22) F cs_X8_104 k224 rfl (by decide) (by rfl) (by rfl) (Nat.le_of_ble_eq_true (by rfl)) (by decide) dX8_leastRest_18 (c_X8_isIn _ g _ gi hg i (by omega) z hz6 hz2) (fun v M2 hz => ?_)
        obtain ⟨rfl, h2⟩ := hz
        rw [h2]
        refine g_if_eq (pc := 21) (tgt := 45) F dX8_leastRest_21 (by decide) (fun c21 => ?_) (fun c21 => ?_)
        · refine g_iload_n (pc := 45) F dX8_leastRest_45 rfl ?_
          refine g_istore_n (pc := 46) F dX8_leastRest_46 (by decide) rfl ?_
          refine g_iinc (pc := 47) F dX8_leastRest_47 rfl rfl (by decide) rfl ?_
          refine g_goto (pc := 50) (tgt := 5) F dX8_leastRest_50 (by decide) ?_
          refine G.sub [some (.ref (ad g 224)), some (.int (nI gi)), some (.int (leastW (M 225) (nI z) (i + 1))), some (.int (y + Int32.ofInt 1))] ⟨rfl, rfl, ?_, rfl, trivial⟩ (ih (i + 1) _ (by omega) (by rw [hy]; exact nI_1 i))
          show some (Value.int _) = some (Value.int (if isIn (nI z) i ∧ _ then _ else _))
          rw [if_neg (fun e => b2i_0 c21 e.1)]
        · refine g_iload_n (pc := 24) F dX8_leastRest_24 rfl ?_
          refine g_if_lt (pc := 25) (tgt := 37) F dX8_leastRest_25 (by decide) (fun c25 => ?_) (fun c25 => ?_)
          · refine g_aload_n (pc := 37) F dX8_leastRest_37 rfl ?_
            refine g_iload_n (pc := 38) F dX8_leastRest_38 rfl ?_
            refine g_stk (st' := [.int (nI i), .ref (ad g 224)]) (by rw [hy] <;> rfl) ?_
            refine g_callV (pc := 39) (rf2 := 1) (rl2 := 22) F cs_X8_61 k224 rfl (by decide) (by rfl) (by rfl) (Nat.le_of_ble_eq_true (by rfl)) (by decide) dX8_leastRest_39 (c_X8_rest _ g _ i (by omega)) (fun v M2 hz => ?_)
            obtain ⟨rfl, h2⟩ := hz
            rw [h2]
            refine g_goto (pc := 42) (tgt := 46) F dX8_leastRest_42 (by decide) ?_
            refine g_istore_n (pc := 46) F dX8_leastRest_46 (by decide) rfl ?_
            refine g_iinc (pc := 47) F dX8_leastRest_47 rfl rfl (by decide) rfl ?_
            refine g_goto (pc := 50) (tgt := 5) F dX8_leastRest_50 (by decide) ?_
            refine G.sub [some (.ref (ad g 224)), some (.int (nI gi)), some (.int (leastW (M 225) (nI z) (i + 1))), some (.int (y + Int32.ofInt 1))] ⟨rfl, rfl, ?_, rfl, trivial⟩ (ih (i + 1) _ (by omega) (by rw [hy]; exact nI_1 i))
            show some (Value.int _) = some (Value.int (if isIn (nI z) i ∧ _ then _ else _))
            rw [if_pos ⟨b2i_1 c21, Or.inl ((leastW_nn hi (nI z) i (by omega)).resolve_right (fun e => e c25))⟩]
          · refine g_aload_n (pc := 28) F dX8_leastRest_28 rfl ?_
            refine g_iload_n (pc := 29) F dX8_leastRest_29 rfl ?_
            refine g_stk (st' := [.int (nI i), .ref (ad g 224)]) (by rw [hy] <;> rfl) ?_
            refine g_callV (pc := 30) (rf2 := 1) (rl2 := 22) F cs_X8_61 k224 rfl (by decide) (by rfl) (by rfl) (Nat.le_of_ble_eq_true (by rfl)) (by decide) dX8_leastRest_30 (c_X8_rest _ g _ i (by omega)) (fun v M2 hz => ?_)
            obtain ⟨rfl, h2⟩ := hz
            rw [h2]
            refine g_iload_n (pc := 33) F dX8_leastRest_33 rfl ?_
            refine g_icmp_ge (pc := 34) (tgt := 45) F dX8_leastRest_34 (by decide) (fun c34 => ?_) (fun c34 => ?_)
            · refine g_iload_n (pc := 45) F dX8_leastRest_45 rfl ?_
              refine g_istore_n (pc := 46) F dX8_leastRest_46 (by decide) rfl ?_
              refine g_iinc (pc := 47) F dX8_leastRest_47 rfl rfl (by decide) rfl ?_
              refine g_goto (pc := 50) (tgt := 5) F dX8_leastRest_50 (by decide) ?_
              refine G.sub [some (.ref (ad g 224)), some (.int (nI gi)), some (.int (leastW (M 225) (nI z) (i + 1))), some (.int (y + Int32.ofInt 1))] ⟨rfl, rfl, ?_, rfl, trivial⟩ (ih (i + 1) _ (by omega) (by rw [hy]; exact nI_1 i))
              show some (Value.int _) = some (Value.int (if isIn (nI z) i ∧ _ then _ else _))
              rw [if_neg (fun e => e.2.elim (fun q => c25 (by rw [q]; decide)) (fun q => Int32.not_lt.mpr c34 q))]
            · refine g_aload_n (pc := 37) F dX8_leastRest_37 rfl ?_
              refine g_iload_n (pc := 38) F dX8_leastRest_38 rfl ?_
              refine g_stk (st' := [.int (nI i), .ref (ad g 224)]) (by rw [hy] <;> rfl) ?_
              refine g_callV (pc := 39) (rf2 := 1) (rl2 := 22) F cs_X8_61 k224 rfl (by decide) (by rfl) (by rfl) (Nat.le_of_ble_eq_true (by rfl)) (by decide) dX8_leastRest_39 (c_X8_rest _ g _ i (by omega)) (fun v M2 hz => ?_)
              obtain ⟨rfl, h2⟩ := hz
              rw [h2]
              refine g_goto (pc := 42) (tgt := 46) F dX8_leastRest_42 (by decide) ?_
              refine g_istore_n (pc := 46) F dX8_leastRest_46 (by decide) rfl ?_
              refine g_iinc (pc := 47) F dX8_leastRest_47 rfl rfl (by decide) rfl ?_
              refine g_goto (pc := 50) (tgt := 5) F dX8_leastRest_50 (by decide) ?_
              refine G.sub [some (.ref (ad g 224)), some (.int (nI gi)), some (.int (leastW (M 225) (nI z) (i + 1))), some (.int (y + Int32.ofInt 1))] ⟨rfl, rfl, ?_, rfl, trivial⟩ (ih (i + 1) _ (by omega) (by rw [hy]; exact nI_1 i))
              show some (Value.int _) = some (Value.int (if isIn (nI z) i ∧ _ then _ else _))
              rw [if_pos ⟨b2i_1 c21, Or.inr (Int32.not_le.mp c34)⟩]
  
  exact L (cn (M 225)) 0 _ (by omega) nI0

