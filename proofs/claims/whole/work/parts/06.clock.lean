/-! Integer.bitCount -/
def jbs (x : Int32) (n : Int32) : Int32 := (x.toUInt32 >>> (n.toUInt32 &&& Int32.toUInt32 31)).toInt32
def jb1 (x : Int32) : Int32 := x - (jbs x 1 &&& 1431655765)
def jb2 (x : Int32) : Int32 := (x &&& 858993459) + (jbs x 2 &&& 858993459)
def jb3 (x : Int32) : Int32 := (x + jbs x 4) &&& 252645135
def jb4 (x : Int32) : Int32 := x + jbs x 8
def jb5 (x : Int32) : Int32 := x + jbs x 16
def jbc (x : Int32) : Int32 := jb5 (jb4 (jb3 (jb2 (jb1 x)))) &&& 63
set_option maxHeartbeats 4000000 in
set_option maxRecDepth 100000 in
theorem c_J6_bitCount_0f7a4 (l : Launch) (g : Gm) (M : Mem) (x : Int32) : Cn l yJ6_bitCount_0f7a4 cJ6_bitCount_0f7a4 1 (some .int) 0 0 g [.int x] M (fun v M2 => v = some (.int (jbc x)) ∧ M2 = M) := by
  refine Cn.intro (lv0 := [some (.int x)]) 0 (by decide +kernel) (Nat.le_of_ble_eq_true rfl) rfl (fun X F r => ?_)
  refine g_iload_n (pc := 0) F dJ6_bitCount_0f7a4_0 rfl ?_
  refine g_iload_n (pc := 1) F dJ6_bitCount_0f7a4_1 rfl ?_
  refine g_iconst (pc := 2) (v := 1) F dJ6_bitCount_0f7a4_2 (by decide) ?_
  refine g_iushr (pc := 3) F dJ6_bitCount_0f7a4_3 rfl ?_
  refine g_ldcw (pc := 4) F wk_J6_265 dJ6_bitCount_0f7a4_4 ?_
  refine g_iand (pc := 7) F dJ6_bitCount_0f7a4_7 ?_
  refine g_isub (pc := 8) F dJ6_bitCount_0f7a4_8 ?_
  refine g_istore_n (pc := 9) F dJ6_bitCount_0f7a4_9 (by decide) rfl ?_
  refine g_iload_n (pc := 10) F dJ6_bitCount_0f7a4_10 rfl ?_
  refine g_ldcw (pc := 11) F wk_J6_266 dJ6_bitCount_0f7a4_11 ?_
  refine g_iand (pc := 14) F dJ6_bitCount_0f7a4_14 ?_
  refine g_iload_n (pc := 15) F dJ6_bitCount_0f7a4_15 rfl ?_
  refine g_iconst (pc := 16) (v := 2) F dJ6_bitCount_0f7a4_16 (by decide) ?_
  refine g_iushr (pc := 17) F dJ6_bitCount_0f7a4_17 rfl ?_
  refine g_ldcw (pc := 18) F wk_J6_266 dJ6_bitCount_0f7a4_18 ?_
  refine g_iand (pc := 21) F dJ6_bitCount_0f7a4_21 ?_
  refine g_iadd (pc := 22) F dJ6_bitCount_0f7a4_22 ?_
  refine g_istore_n (pc := 23) F dJ6_bitCount_0f7a4_23 (by decide) rfl ?_
  refine g_iload_n (pc := 24) F dJ6_bitCount_0f7a4_24 rfl ?_
  refine g_iload_n (pc := 25) F dJ6_bitCount_0f7a4_25 rfl ?_
  refine g_iconst (pc := 26) (v := 4) F dJ6_bitCount_0f7a4_26 (by decide) ?_
  refine g_iushr (pc := 27) F dJ6_bitCount_0f7a4_27 rfl ?_
  refine g_iadd (pc := 28) F dJ6_bitCount_0f7a4_28 ?_
  refine g_ldcw (pc := 29) F wk_J6_267 dJ6_bitCount_0f7a4_29 ?_
  refine g_iand (pc := 32) F dJ6_bitCount_0f7a4_32 ?_
  refine g_istore_n (pc := 33) F dJ6_bitCount_0f7a4_33 (by decide) rfl ?_
  refine g_iload_n (pc := 34) F dJ6_bitCount_0f7a4_34 rfl ?_
  refine g_iload_n (pc := 35) F dJ6_bitCount_0f7a4_35 rfl ?_
  refine g_bipush (pc := 36) (v := 8) F dJ6_bitCount_0f7a4_36 (by decide) ?_
  refine g_iushr (pc := 38) F dJ6_bitCount_0f7a4_38 rfl ?_
  refine g_iadd (pc := 39) F dJ6_bitCount_0f7a4_39 ?_
  refine g_istore_n (pc := 40) F dJ6_bitCount_0f7a4_40 (by decide) rfl ?_
  refine g_iload_n (pc := 41) F dJ6_bitCount_0f7a4_41 rfl ?_
  refine g_iload_n (pc := 42) F dJ6_bitCount_0f7a4_42 rfl ?_
  refine g_bipush (pc := 43) (v := 16) F dJ6_bitCount_0f7a4_43 (by decide) ?_
  refine g_iushr (pc := 45) F dJ6_bitCount_0f7a4_45 rfl ?_
  refine g_iadd (pc := 46) F dJ6_bitCount_0f7a4_46 ?_
  refine g_istore_n (pc := 47) F dJ6_bitCount_0f7a4_47 (by decide) rfl ?_
  refine g_iload_n (pc := 48) F dJ6_bitCount_0f7a4_48 rfl ?_
  refine g_bipush (pc := 49) (v := 63) F dJ6_bitCount_0f7a4_49 (by decide) ?_
  refine g_iand (pc := 51) F dJ6_bitCount_0f7a4_51 ?_
  refine g_iret (pc := 52) F r dJ6_bitCount_0f7a4_52 ?_
  exact ⟨rfl, rfl⟩

set_option maxHeartbeats 4000000 in
set_option maxRecDepth 100000 in
theorem c_X2_size (l : Launch) (g : Gm) (M : Mem) (q : Nat) (hk : kd q = 2) : Cn l yX2_size cX2_size 1 (some .int) 1 20 g [.ref (ad g q)] M (fun v M2 => v = some (.int (jbc (M q 1))) ∧ M2 = M) := by
  refine Cn.intro (lv0 := [some (.ref (ad g q))]) 0 (by decide +kernel) (Nat.le_of_ble_eq_true rfl) rfl (fun X F r => ?_)
  refine g_aload_n (pc := 0) F dX2_size_0 rfl ?_
  refine g_geti (pc := 1) F fl_X2_13 (by assumption) rfl dX2_size_1 ?_
  refine g_callS (pc := 4) (rf2 := 0) (rl2 := 0) F cs_X2_22 (by rfl) (by rfl) (Nat.le_of_ble_eq_true (by rfl)) (by decide) dX2_size_4 (c_J6_bitCount_0f7a4 _ g _ _) (fun v M2 h => ?_)
  obtain ⟨rfl, h2⟩ := h
  rw [h2]
  refine g_iret (pc := 7) F r dX2_size_7 ?_
  exact ⟨rfl, rfl⟩

/-- a group's row when a tick ends at which the clocks z have told -/
def gtick (r : Nat → Int32) (z : Int32) : Nat → Int32 := fun j => if j = 2 then r 2 + jbc (r 1 &&& z) else if j = 3 then (if jbc (r 1 &&& z) < 2 then r 3 else r 3 + 1) else r j
theorem g_top {X : XT} {g : Gm} {nL : Nat} {M : Mem} {pc : Nat} {lv : List (Option Value)} {st : List Value} {x : Int32} (k : ∀ y : Int32, y = x → G X g nL M pc lv (.int y :: st)) : G X g nL M pc lv (.int x :: st) := k x rfl
theorem g_stk {X : XT} {g : Gm} {nL : Nat} {M : Mem} {pc : Nat} {lv : List (Option Value)} {st st' : List Value} (h : st = st') (k : G X g nL M pc lv st') : G X g nL M pc lv st := h ▸ k
set_option maxHeartbeats 4000000 in
set_option maxRecDepth 100000 in
theorem c_X2_passTick (l : Launch) (g : Gm) (M : Mem) (q : Nat) (hk : kd q = 2) (z : Int32) : Cn l yX2_passTick cX2_passTick 3 none 1 20 g [.ref (ad g q), .int z] M (fun v M2 => v = none ∧ M2 = updr M q (gtick (M q) z)) := by
  refine Cn.intro (lv0 := [some (.ref (ad g q)), some (.int z), none]) 1 (by decide +kernel) (Nat.le_of_ble_eq_true rfl) rfl (fun X F r => ?_)
  refine g_aload_n (pc := 0) F dX2_passTick_0 rfl ?_
  refine g_geti (pc := 1) F fl_X2_13 (by assumption) rfl dX2_passTick_1 ?_
  refine g_iload_n (pc := 4) F dX2_passTick_4 rfl ?_
  refine g_iand (pc := 5) F dX2_passTick_5 ?_
  refine g_callS (pc := 6) (rf2 := 0) (rl2 := 0) F cs_X2_22 (by rfl) (by rfl) (Nat.le_of_ble_eq_true (by rfl)) (by decide) dX2_passTick_6 (c_J6_bitCount_0f7a4 _ g _ _) (fun v M2 h => ?_)
  obtain ⟨rfl, h2⟩ := h
  rw [h2]
  refine g_top (pc := 9) (fun y hy => ?_)
  refine g_istore_n (pc := 9) F dX2_passTick_9 (by decide) rfl ?_
  refine g_aload_n (pc := 10) F dX2_passTick_10 rfl ?_
  refine g_dup (pc := 11) F dX2_passTick_11 rfl ?_
  refine g_geti (pc := 12) F fl_X2_16 (by assumption) rfl dX2_passTick_12 ?_
  refine g_iload_n (pc := 15) F dX2_passTick_15 rfl ?_
  refine g_iadd (pc := 16) F dX2_passTick_16 ?_
  refine g_puti (pc := 17) F fl_X2_16 rfl rfl (by assumption) rfl dX2_passTick_17 ?_
  refine g_iload_n (pc := 20) F dX2_passTick_20 rfl ?_
  refine g_iconst (pc := 21) (v := 2) F dX2_passTick_21 (by decide) ?_
  refine g_icmp_lt (pc := 22) (tgt := 35) F dX2_passTick_22 (by decide) (fun c22 => ?_) (fun c22 => ?_)
  · refine g_vret (pc := 35) F r dX2_passTick_35 ?_
    refine ⟨rfl, ?_⟩
    simp only [upd2_updr, updr_upd2, updr_self, updr_updr]
    refine congrArg (updr M q) (funext fun j => ?_)
    subst hy
    by_cases h2 : j = 2 <;> by_cases h3 : j = 3 <;> simp_all [upd, gtick]
  · refine g_aload_n (pc := 25) F dX2_passTick_25 rfl ?_
    refine g_dup (pc := 26) F dX2_passTick_26 rfl ?_
    refine g_geti (pc := 27) F fl_X2_19 (by assumption) rfl dX2_passTick_27 ?_
    refine g_iconst (pc := 30) (v := 1) F dX2_passTick_30 (by decide) ?_
    refine g_iadd (pc := 31) F dX2_passTick_31 ?_
    refine g_puti (pc := 32) F fl_X2_19 rfl rfl (by assumption) rfl dX2_passTick_32 ?_
    refine g_vret (pc := 35) F r dX2_passTick_35 ?_
    refine ⟨rfl, ?_⟩
    simp only [upd2_updr, updr_upd2, updr_self, updr_updr]
    refine congrArg (updr M q) (funext fun j => ?_)
    subst hy
    by_cases h2 : j = 2 <;> by_cases h3 : j = 3 <;> simp_all [upd, gtick]

/-! Clock: the rows c (fields), c + 1 (numbers), c + 2 (told), c + 3 (round) -/
def radc (r : Nat → Int32) (x : Int32) : Nat → Int32 := if 0 < x then radd r x 1 else r
def radcs (r : Nat → Int32) (f : Nat → Int32) : Nat → (Nat → Int32)
  | 0 => r
  | i + 1 => radc (radcs r f i) (f i)
/-- the tally of one round of a law -/
def rndR (r : Nat → Int32) (law : Int32) (f : Nat → Int32) : Nat → Int32 := if law = 2 then radd (radd r (f 0) (f 1)) (f 2) 1 else radcs r f 4
set_option maxHeartbeats 4000000 in
set_option maxRecDepth 100000 in
theorem c_X0_fillRound (l : Launch) (g : Gm) (M : Mem) (c : Nat) (hk : kd c = 0) : Cn l yX0_fillRound cX0_fillRound 2 none 1 22 g [.ref (ad g c)] M (fun v M2 => v = none ∧ M2 = updr M (c + 3) (rndR (rzero (M (c + 3))) (M c 0) (M (c + 1)))) := by
  refine Cn.intro (lv0 := [some (.ref (ad g c)), none]) 1 (by decide +kernel) (Nat.le_of_ble_eq_true rfl) rfl (fun X F r => ?_)
  obtain ⟨hk1, hk2, hk3⟩ := kd_clk hk
  have L : ¬ M c 0 = 2 → ∀ (n i : Nat) (x : Int32), i + n = 4 → x = nI i → G X g 2 (updr M (c + 3) (radcs (rzero (M (c + 3))) (M (c + 1)) i)) 51 [some (.ref (ad g c)), some (.int x)] [] := by
    intro hl n
    induction n with
    | zero =>
      intro i x hi hx
      obtain rfl : i = 4 := by omega
      refine g_iload_n (pc := 51) F dX0_fillRound_51 rfl ?_
      refine g_aload_n (pc := 52) F dX0_fillRound_52 rfl ?_
      refine g_getr (pc := 53) F fl_X0_9 (by assumption) rfl dX0_fillRound_53 ?_
      refine g_alen (pc := 56) F (by assumption) rfl (v := 4) (by decide) dX0_fillRound_56 ?_
      refine g_icmp_ge (pc := 57) (tgt := 89) F dX0_fillRound_57 (by decide) (fun c57 => ?_) (fun c57 => ?_)
      · refine g_vret (pc := 89) F r dX0_fillRound_89 ?_
        refine ⟨rfl, ?_⟩
        rw [show rndR (rzero (M (c + 3))) (M c 0) (M (c + 1)) = radcs (rzero (M (c + 3))) (M (c + 1)) 4 from if_neg hl]
      · exact absurd (by rw [hx]; decide) c57
    | succ n ih =>
      intro i x hi hx
      refine g_iload_n (pc := 51) F dX0_fillRound_51 rfl ?_
      refine g_aload_n (pc := 52) F dX0_fillRound_52 rfl ?_
      refine g_getr (pc := 53) F fl_X0_9 (by assumption) rfl dX0_fillRound_53 ?_
      refine g_alen (pc := 56) F (by assumption) rfl (v := 4) (by decide) dX0_fillRound_56 ?_
      refine g_icmp_ge (pc := 57) (tgt := 89) F dX0_fillRound_57 (by decide) (fun c57 => ?_) (fun c57 => ?_)
      · exact absurd c57 (by rw [hx]; exact nI_ge (a := i) (b := 4) (by omega) (by decide))
      · refine g_aload_n (pc := 60) F dX0_fillRound_60 rfl ?_
        refine g_getr (pc := 61) F fl_X0_9 (by assumption) rfl dX0_fillRound_61 ?_
        refine g_iload_n (pc := 64) F dX0_fillRound_64 rfl ?_
        refine g_iald (pc := 65) F (by assumption) rfl (by assumption) (by omega) dX0_fillRound_65 ?_
        refine g_if_le (pc := 66) (tgt := 83) F dX0_fillRound_66 (by decide) (fun c66 => ?_) (fun c66 => ?_)
        · rw [updr_ne _ _ (show c + 1 ≠ c + 3 by omega)] at c66
          refine g_iinc (pc := 83) F dX0_fillRound_83 rfl rfl (by decide) rfl ?_
          refine g_goto (pc := 86) (tgt := 51) F dX0_fillRound_86 (by decide) ?_
          refine G.mem ?_ (ih (i + 1) _ (by omega) (by rw [hx]; exact nI_1 i))
          simp only [radcs, radc, updr_updr, updr_self, updr_ne _ _ (show c + 1 ≠ c + 3 by omega)]
          first | rw [if_pos (Int32.not_le.mp c66)] | rw [if_neg (Int32.not_lt.mpr c66)]
        · rw [updr_ne _ _ (show c + 1 ≠ c + 3 by omega)] at c66
          refine g_aload_n (pc := 69) F dX0_fillRound_69 rfl ?_
          refine g_getr (pc := 70) F fl_X0_22 (by assumption) rfl dX0_fillRound_70 ?_
          refine g_aload_n (pc := 73) F dX0_fillRound_73 rfl ?_
          refine g_getr (pc := 74) F fl_X0_9 (by assumption) rfl dX0_fillRound_74 ?_
          refine g_iload_n (pc := 77) F dX0_fillRound_77 rfl ?_
          refine g_iald (pc := 78) F (by assumption) rfl (by assumption) (by omega) dX0_fillRound_78 ?_
          refine g_iconst (pc := 79) (v := 1) F dX0_fillRound_79 (by decide) ?_
          refine g_callV (pc := 80) (rf2 := 0) (rl2 := 0) F cs_X0_53 (by assumption) rfl (by decide) (by rfl) (by rfl) (Nat.le_of_ble_eq_true (by rfl)) (by decide) dX0_fillRound_80 (c_X1_add _ g _ (c + 3) hk3 _ _) (fun v M2 h => ?_)
          obtain ⟨rfl, rfl⟩ := h
          refine g_iinc (pc := 83) F dX0_fillRound_83 rfl rfl (by decide) rfl ?_
          refine g_goto (pc := 86) (tgt := 51) F dX0_fillRound_86 (by decide) ?_
          refine G.mem ?_ (ih (i + 1) _ (by omega) (by rw [hx]; exact nI_1 i))
          simp only [radcs, radc, updr_updr, updr_self, updr_ne _ _ (show c + 1 ≠ c + 3 by omega)]
          first | rw [if_pos (Int32.not_le.mp c66)] | rw [if_neg (Int32.not_lt.mpr c66)]
  refine g_aload_n (pc := 0) F dX0_fillRound_0 rfl ?_
  refine g_getr (pc := 1) F fl_X0_22 (by assumption) rfl dX0_fillRound_1 ?_
  refine g_callV (pc := 4) (rf2 := 0) (rl2 := 0) F cs_X0_47 (by assumption) rfl (by decide) (by rfl) (by rfl) (Nat.le_of_ble_eq_true (by rfl)) (by decide) dX0_fillRound_4 (c_X1_empty _ g _ (c + 3) hk3) (fun v M2 h => ?_)
  obtain ⟨rfl, rfl⟩ := h
  refine g_aload_n (pc := 7) F dX0_fillRound_7 rfl ?_
  refine g_geti (pc := 8) F fl_X0_25 (by assumption) rfl dX0_fillRound_8 ?_
  refine g_iconst (pc := 11) (v := 2) F dX0_fillRound_11 (by decide) ?_
  refine g_icmp_ne (pc := 12) (tgt := 49) F dX0_fillRound_12 (by decide) (fun c12 => ?_) (fun c12 => ?_)
  · refine g_iconst (pc := 49) (v := 0) F dX0_fillRound_49 (by decide) ?_
    refine g_istore_n (pc := 50) F dX0_fillRound_50 (by decide) rfl ?_
    exact L (by simpa only [updr_updr, updr_self, updr_ne _ _ (show c ≠ c + 3 by omega), updr_ne _ _ (show c + 1 ≠ c + 3 by omega)] using c12) 4 0 0 rfl nI_0.symm
  · refine g_aload_n (pc := 15) F dX0_fillRound_15 rfl ?_
    refine g_getr (pc := 16) F fl_X0_22 (by assumption) rfl dX0_fillRound_16 ?_
    refine g_aload_n (pc := 19) F dX0_fillRound_19 rfl ?_
    refine g_getr (pc := 20) F fl_X0_9 (by assumption) rfl dX0_fillRound_20 ?_
    refine g_iconst (pc := 23) (v := 0) F dX0_fillRound_23 (by decide) ?_
    refine g_iald (pc := 24) (q := 0) F (by assumption) rfl (by decide) (by decide) dX0_fillRound_24 ?_
    refine g_aload_n (pc := 25) F dX0_fillRound_25 rfl ?_
    refine g_getr (pc := 26) F fl_X0_9 (by assumption) rfl dX0_fillRound_26 ?_
    refine g_iconst (pc := 29) (v := 1) F dX0_fillRound_29 (by decide) ?_
    refine g_iald (pc := 30) (q := 1) F (by assumption) rfl (by decide) (by decide) dX0_fillRound_30 ?_
    refine g_callV (pc := 31) (rf2 := 0) (rl2 := 0) F cs_X0_53 (by assumption) rfl (by decide) (by rfl) (by rfl) (Nat.le_of_ble_eq_true (by rfl)) (by decide) dX0_fillRound_31 (c_X1_add _ g _ (c + 3) hk3 _ _) (fun v M2 h => ?_)
    obtain ⟨rfl, rfl⟩ := h
    refine g_aload_n (pc := 34) F dX0_fillRound_34 rfl ?_
    refine g_getr (pc := 35) F fl_X0_22 (by assumption) rfl dX0_fillRound_35 ?_
    refine g_aload_n (pc := 38) F dX0_fillRound_38 rfl ?_
    refine g_getr (pc := 39) F fl_X0_9 (by assumption) rfl dX0_fillRound_39 ?_
    refine g_iconst (pc := 42) (v := 2) F dX0_fillRound_42 (by decide) ?_
    refine g_iald (pc := 43) (q := 2) F (by assumption) rfl (by decide) (by decide) dX0_fillRound_43 ?_
    refine g_iconst (pc := 44) (v := 1) F dX0_fillRound_44 (by decide) ?_
    refine g_callV (pc := 45) (rf2 := 0) (rl2 := 0) F cs_X0_53 (by assumption) rfl (by decide) (by rfl) (by rfl) (Nat.le_of_ble_eq_true (by rfl)) (by decide) dX0_fillRound_45 (c_X1_add _ g _ (c + 3) hk3 _ _) (fun v M2 h => ?_)
    obtain ⟨rfl, rfl⟩ := h
    refine g_vret (pc := 48) F r dX0_fillRound_48 ?_
    refine ⟨rfl, ?_⟩
    simp only [updr_updr, updr_self, updr_ne _ _ (show c ≠ c + 3 by omega), updr_ne _ _ (show c + 1 ≠ c + 3 by omega)] at c12 ⊢
    rw [show rndR (rzero (M (c + 3))) (M c 0) (M (c + 1)) = radd (radd (rzero (M (c + 3))) (M (c + 1) 0) (M (c + 1) 1)) (M (c + 1) 2) 1 from if_pos c12]

