/-! Integer.bitCount -/
def jbs (x : Int32) (n : Int32) : Int32 := (x.toUInt32 >>> (n.toUInt32 &&& Int32.toUInt32 31)).toInt32
def jb1 (x : Int32) : Int32 := x - (jbs x 1 &&& 1431655765)
def jb2 (x : Int32) : Int32 := (x &&& 858993459) + (jbs x 2 &&& 858993459)
def jb3 (x : Int32) : Int32 := (x + jbs x 4) &&& 252645135
def jb4 (x : Int32) : Int32 := x + jbs x 8
def jb5 (x : Int32) : Int32 := x + jbs x 16
def jbc (x : Int32) : Int32 := jb5 (jb4 (jb3 (jb2 (jb1 x)))) &&& 63
set_option maxHeartbeats 4000000 in
set_option maxRecDepth 100000 in
theorem c_J6_bitCount_0f7a4 (l : Launch) (g : Gm) (M : Mem) (x : Int32) : Cn l yJ6_bitCount_0f7a4 cJ6_bitCount_0f7a4 1 (some .int) 0 0 g [.int x] M (fun v M2 => v = some (.int (jbc x)) ∧ M2 = M) := by
  refine Cn.intro (lv0 := [some (.int x)]) 0 (by decide +kernel) (Nat.le_of_ble_eq_true rfl) rfl (fun X F r => ?_)
  refine g_iload_n (pc := 0) F dJ6_bitCount_0f7a4_0 rfl ?_
  refine g_iload_n (pc := 1) F dJ6_bitCount_0f7a4_1 rfl ?_
  refine g_iconst (pc := 2) (v := 1) F dJ6_bitCount_0f7a4_2 (by decide) ?_
  refine g_iushr (pc := 3) F dJ6_bitCount_0f7a4_3 rfl ?_
  refine g_ldcw (pc := 4) F wk_J6_265 dJ6_bitCount_0f7a4_4 ?_
  refine g_iand (pc := 7) F dJ6_bitCount_0f7a4_7 ?_
  refine g_isub (pc := 8) F dJ6_bitCount_0f7a4_8 ?_
  refine g_istore_n (pc := 9) F dJ6_bitCount_0f7a4_9 (by decide) rfl ?_
  refine g_iload_n (pc := 10) F dJ6_bitCount_0f7a4_10 rfl ?_
  refine g_ldcw (pc := 11) F wk_J6_266 dJ6_bitCount_0f7a4_11 ?_
  refine g_iand (pc := 14) F dJ6_bitCount_0f7a4_14 ?_
  refine g_iload_n (pc := 15) F dJ6_bitCount_0f7a4_15 rfl ?_
  refine g_iconst (pc := 16) (v := 2) F dJ6_bitCount_0f7a4_16 (by decide) ?_
  refine g_iushr (pc := 17) F dJ6_bitCount_0f7a4_17 rfl ?_
  refine g_ldcw (pc := 18) F wk_J6_266 dJ6_bitCount_0f7a4_18 ?_
  refine g_iand (pc := 21) F dJ6_bitCount_0f7a4_21 ?_
  refine g_iadd (pc := 22) F dJ6_bitCount_0f7a4_22 ?_
  refine g_istore_n (pc := 23) F dJ6_bitCount_0f7a4_23 (by decide) rfl ?_
  refine g_iload_n (pc := 24) F dJ6_bitCount_0f7a4_24 rfl ?_
  refine g_iload_n (pc := 25) F dJ6_bitCount_0f7a4_25 rfl ?_
  refine g_iconst (pc := 26) (v := 4) F dJ6_bitCount_0f7a4_26 (by decide) ?_
  refine g_iushr (pc := 27) F dJ6_bitCount_0f7a4_27 rfl ?_
  refine g_iadd (pc := 28) F dJ6_bitCount_0f7a4_28 ?_
  refine g_ldcw (pc := 29) F wk_J6_267 dJ6_bitCount_0f7a4_29 ?_
  refine g_iand (pc := 32) F dJ6_bitCount_0f7a4_32 ?_
  refine g_istore_n (pc := 33) F dJ6_bitCount_0f7a4_33 (by decide) rfl ?_
  refine g_iload_n (pc := 34) F dJ6_bitCount_0f7a4_34 rfl ?_
  refine g_iload_n (pc := 35) F dJ6_bitCount_0f7a4_35 rfl ?_
  refine g_bipush (pc := 36) (v := 8) F dJ6_bitCount_0f7a4_36 (by decide) ?_
  refine g_iushr (pc := 38) F dJ6_bitCount_0f7a4_38 rfl ?_
  refine g_iadd (pc := 39) F dJ6_bitCount_0f7a4_39 ?_
  refine g_istore_n (pc := 40) F dJ6_bitCount_0f7a4_40 (by decide) rfl ?_
  refine g_iload_n (pc := 41) F dJ6_bitCount_0f7a4_41 rfl ?_
  refine g_iload_n (pc := 42) F dJ6_bitCount_0f7a4_42 rfl ?_
  refine g_bipush (pc := 43) (v := 16) F dJ6_bitCount_0f7a4_43 (by decide) ?_
  refine g_iushr (pc := 45) F dJ6_bitCount_0f7a4_45 rfl ?_
  refine g_iadd (pc := 46) F dJ6_bitCount_0f7a4_46 ?_
  refine g_istore_n (pc := 47) F dJ6_bitCount_0f7a4_47 (by decide) rfl ?_
  refine g_iload_n (pc := 48) F dJ6_bitCount_0f7a4_48 rfl ?_
  refine g_bipush (pc := 49) (v := 63) F dJ6_bitCount_0f7a4_49 (by decide) ?_
  refine g_iand (pc := 51) F dJ6_bitCount_0f7a4_51 ?_
  refine g_iret (pc := 52) F r dJ6_bitCount_0f7a4_52 ?_
  exact ⟨rfl, rfl⟩

set_option maxHeartbeats 4000000 in
set_option maxRecDepth 100000 in
theorem c_X2_size (l : Launch) (g : Gm) (M : Mem) (q : Nat) (hk : kd q = 2) : Cn l yX2_size cX2_size 1 (some .int) 1 20 g [.ref (ad g q)] M (fun v M2 => v = some (.int (jbc (M q 1))) ∧ M2 = M) := by
  refine Cn.intro (lv0 := [some (.ref (ad g q))]) 0 (by decide +kernel) (Nat.le_of_ble_eq_true rfl) rfl (fun X F r => ?_)
  refine g_aload_n (pc := 0) F dX2_size_0 rfl ?_
  refine g_geti (pc := 1) F fl_X2_13 (by assumption) rfl dX2_size_1 ?_
  refine g_callS (pc := 4) (rf2 := 0) (rl2 := 0) F cs_X2_22 (by rfl) (by rfl) (Nat.le_of_ble_eq_true (by rfl)) (by decide) dX2_size_4 (c_J6_bitCount_0f7a4 _ g _ _) (fun v M2 hz => ?_)
  obtain ⟨rfl, h2⟩ := hz
  rw [h2]
  refine g_iret (pc := 7) F r dX2_size_7 ?_
  exact ⟨rfl, rfl⟩

/-- a group's row when a tick ends at which the clocks z have told -/
def gtick (r : Nat → Int32) (z : Int32) : Nat → Int32 := fun j => if j = 2 then r 2 + jbc (r 1 &&& z) else if j = 3 then (if jbc (r 1 &&& z) < 2 then r 3 else r 3 + 1) else r j
theorem g_top {X : XT} {g : Gm} {nL : Nat} {M : Mem} {pc : Nat} {lv : List (Option Value)} {st : List Value} {x : Int32} (k : ∀ y : Int32, y = x → G X g nL M pc lv (.int y :: st)) : G X g nL M pc lv (.int x :: st) := k x rfl
theorem g_stk {X : XT} {g : Gm} {nL : Nat} {M : Mem} {pc : Nat} {lv : List (Option Value)} {st st' : List Value} (h : st = st') (k : G X g nL M pc lv st') : G X g nL M pc lv st := h ▸ k
set_option maxHeartbeats 4000000 in
set_option maxRecDepth 100000 in
theorem c_X2_passTick (l : Launch) (g : Gm) (M : Mem) (q : Nat) (hk : kd q = 2) (z : Int32) : Cn l yX2_passTick cX2_passTick 3 none 1 20 g [.ref (ad g q), .int z] M (fun v M2 => v = none ∧ M2 = updr M q (gtick (M q) z)) := by
  refine Cn.intro (lv0 := [some (.ref (ad g q)), some (.int z), none]) 1 (by decide +kernel) (Nat.le_of_ble_eq_true rfl) rfl (fun X F r => ?_)
  refine g_aload_n (pc := 0) F dX2_passTick_0 rfl ?_
  refine g_geti (pc := 1) F fl_X2_13 (by assumption) rfl dX2_passTick_1 ?_
  refine g_iload_n (pc := 4) F dX2_passTick_4 rfl ?_
  refine g_iand (pc := 5) F dX2_passTick_5 ?_
  refine g_callS (pc := 6) (rf2 := 0) (rl2 := 0) F cs_X2_22 (by rfl) (by rfl) (Nat.le_of_ble_eq_true (by rfl)) (by decide) dX2_passTick_6 (c_J6_bitCount_0f7a4 _ g _ _) (fun v M2 hz => ?_)
  obtain ⟨rfl, h2⟩ := hz
  rw [h2]
  refine g_top (pc := 9) (fun y hy => ?_)
  refine g_istore_n (pc := 9) F dX2_passTick_9 (by decide) rfl ?_
  refine g_aload_n (pc := 10) F dX2_passTick_10 rfl ?_
  refine g_dup (pc := 11) F dX2_passTick_11 rfl ?_
  refine g_geti (pc := 12) F fl_X2_16 (by assumption) rfl dX2_passTick_12 ?_
  refine g_iload_n (pc := 15) F dX2_passTick_15 rfl ?_
  refine g_iadd (pc := 16) F dX2_passTick_16 ?_
  refine g_puti (pc := 17) F fl_X2_16 rfl rfl (by assumption) rfl dX2_passTick_17 ?_
  refine g_iload_n (pc := 20) F dX2_passTick_20 rfl ?_
  refine g_iconst (pc := 21) (v := 2) F dX2_passTick_21 (by decide) ?_
  refine g_icmp_lt (pc := 22) (tgt := 35) F dX2_passTick_22 (by decide) (fun c22 => ?_) (fun c22 => ?_)
  · refine g_vret (pc := 35) F r dX2_passTick_35 ?_
    refine ⟨rfl, ?_⟩
    simp only [upd2_updr, updr_upd2, updr_self, updr_updr]
    refine congrArg (updr M q) (funext fun j => ?_)
    subst hy
    by_cases h2 : j = 2 <;> by_cases h3 : j = 3 <;> simp_all [upd, gtick]
  · refine g_aload_n (pc := 25) F dX2_passTick_25 rfl ?_
    refine g_dup (pc := 26) F dX2_passTick_26 rfl ?_
    refine g_geti (pc := 27) F fl_X2_19 (by assumption) rfl dX2_passTick_27 ?_
    refine g_iconst (pc := 30) (v := 1) F dX2_passTick_30 (by decide) ?_
    refine g_iadd (pc := 31) F dX2_passTick_31 ?_
    refine g_puti (pc := 32) F fl_X2_19 rfl rfl (by assumption) rfl dX2_passTick_32 ?_
    refine g_vret (pc := 35) F r dX2_passTick_35 ?_
    refine ⟨rfl, ?_⟩
    simp only [upd2_updr, updr_upd2, updr_self, updr_updr]
    refine congrArg (updr M q) (funext fun j => ?_)
    subst hy
    by_cases h2 : j = 2 <;> by_cases h3 : j = 3 <;> simp_all [upd, gtick]

/-! Clock: the rows c (fields), c + 1 (numbers), c + 2 (told), c + 3 (round) -/
def radc (r : Nat → Int32) (x : Int32) : Nat → Int32 := if 0 < x then radd r x 1 else r
def radcs (r : Nat → Int32) (f : Nat → Int32) : Nat → (Nat → Int32)
  | 0 => r
  | i + 1 => radc (radcs r f i) (f i)
/-- the tally of one round of a law -/
def rndR (r : Nat → Int32) (law : Int32) (f : Nat → Int32) : Nat → Int32 := if law = 2 then radd (radd r (f 0) (f 1)) (f 2) 1 else radcs r f 4
set_option maxHeartbeats 4000000 in
set_option maxRecDepth 100000 in
theorem c_X0_fillRound (l : Launch) (g : Gm) (M : Mem) (c : Nat) (hk : kd c = 0) : Cn l yX0_fillRound cX0_fillRound 2 none 1 22 g [.ref (ad g c)] M (fun v M2 => v = none ∧ M2 = updr M (c + 3) (rndR (rzero (M (c + 3))) (M c 0) (M (c + 1)))) := by
  refine Cn.intro (lv0 := [some (.ref (ad g c)), none]) 1 (by decide +kernel) (Nat.le_of_ble_eq_true rfl) rfl (fun X F r => ?_)
  obtain ⟨hk1, hk2, hk3⟩ := kd_clk hk
  have L : ¬ M c 0 = 2 → ∀ (n i : Nat) (x : Int32), i + n = 4 → x = nI i → G X g 2 (updr M (c + 3) (radcs (rzero (M (c + 3))) (M (c + 1)) i)) 51 [some (.ref (ad g c)), some (.int x)] [] := by
    intro hl n
    induction n with
    | zero =>
      intro i x hi hx
      obtain rfl : i = 4 := by omega
      refine g_iload_n (pc := 51) F dX0_fillRound_51 rfl ?_
      refine g_aload_n (pc := 52) F dX0_fillRound_52 rfl ?_
      refine g_getr (pc := 53) F fl_X0_9 (by assumption) rfl dX0_fillRound_53 ?_
      refine g_alen (pc := 56) F (by assumption) rfl (v := 4) (by decide) dX0_fillRound_56 ?_
      refine g_icmp_ge (pc := 57) (tgt := 89) F dX0_fillRound_57 (by decide) (fun c57 => ?_) (fun c57 => ?_)
      · refine g_vret (pc := 89) F r dX0_fillRound_89 ?_
        refine ⟨rfl, ?_⟩
        rw [show rndR (rzero (M (c + 3))) (M c 0) (M (c + 1)) = radcs (rzero (M (c + 3))) (M (c + 1)) 4 from if_neg hl]
      · exact absurd (by rw [hx]; decide) c57
    | succ n ih =>
      intro i x hi hx
      refine g_iload_n (pc := 51) F dX0_fillRound_51 rfl ?_
      refine g_aload_n (pc := 52) F dX0_fillRound_52 rfl ?_
      refine g_getr (pc := 53) F fl_X0_9 (by assumption) rfl dX0_fillRound_53 ?_
      refine g_alen (pc := 56) F (by assumption) rfl (v := 4) (by decide) dX0_fillRound_56 ?_
      refine g_icmp_ge (pc := 57) (tgt := 89) F dX0_fillRound_57 (by decide) (fun c57 => ?_) (fun c57 => ?_)
      · exact absurd c57 (by rw [hx]; exact nI_ge (a := i) (b := 4) (by omega) (by decide))
      · refine g_aload_n (pc := 60) F dX0_fillRound_60 rfl ?_
        refine g_getr (pc := 61) F fl_X0_9 (by assumption) rfl dX0_fillRound_61 ?_
        refine g_iload_n (pc := 64) F dX0_fillRound_64 rfl ?_
        refine g_iald (pc := 65) F (by assumption) rfl (by assumption) (by omega) dX0_fillRound_65 ?_
        refine g_if_le (pc := 66) (tgt := 83) F dX0_fillRound_66 (by decide) (fun c66 => ?_) (fun c66 => ?_)
        · rw [updr_ne _ _ (show c + 1 ≠ c + 3 by omega)] at c66
          refine g_iinc (pc := 83) F dX0_fillRound_83 rfl rfl (by decide) rfl ?_
          refine g_goto (pc := 86) (tgt := 51) F dX0_fillRound_86 (by decide) ?_
          refine G.mem ?_ (ih (i + 1) _ (by omega) (by rw [hx]; exact nI_1 i))
          simp only [radcs, radc, updr_updr, updr_self, updr_ne _ _ (show c + 1 ≠ c + 3 by omega)]
          first | rw [if_pos (Int32.not_le.mp c66)] | rw [if_neg (Int32.not_lt.mpr c66)]
        · rw [updr_ne _ _ (show c + 1 ≠ c + 3 by omega)] at c66
          refine g_aload_n (pc := 69) F dX0_fillRound_69 rfl ?_
          refine g_getr (pc := 70) F fl_X0_22 (by assumption) rfl dX0_fillRound_70 ?_
          refine g_aload_n (pc := 73) F dX0_fillRound_73 rfl ?_
          refine g_getr (pc := 74) F fl_X0_9 (by assumption) rfl dX0_fillRound_74 ?_
          refine g_iload_n (pc := 77) F dX0_fillRound_77 rfl ?_
          refine g_iald (pc := 78) F (by assumption) rfl (by assumption) (by omega) dX0_fillRound_78 ?_
          refine g_iconst (pc := 79) (v := 1) F dX0_fillRound_79 (by decide) ?_
          refine g_callV (pc := 80) (rf2 := 0) (rl2 := 0) F cs_X0_53 (by assumption) rfl (by decide) (by rfl) (by rfl) (Nat.le_of_ble_eq_true (by rfl)) (by decide) dX0_fillRound_80 (c_X1_add _ g _ (c + 3) hk3 _ _) (fun v M2 hz => ?_)
          obtain ⟨rfl, rfl⟩ := hz
          refine g_iinc (pc := 83) F dX0_fillRound_83 rfl rfl (by decide) rfl ?_
          refine g_goto (pc := 86) (tgt := 51) F dX0_fillRound_86 (by decide) ?_
          refine G.mem ?_ (ih (i + 1) _ (by omega) (by rw [hx]; exact nI_1 i))
          simp only [radcs, radc, updr_updr, updr_self, updr_ne _ _ (show c + 1 ≠ c + 3 by omega)]
          first | rw [if_pos (Int32.not_le.mp c66)] | rw [if_neg (Int32.not_lt.mpr c66)]
  refine g_aload_n (pc := 0) F dX0_fillRound_0 rfl ?_
  refine g_getr (pc := 1) F fl_X0_22 (by assumption) rfl dX0_fillRound_1 ?_
  refine g_callV (pc := 4) (rf2 := 0) (rl2 := 0) F cs_X0_47 (by assumption) rfl (by decide) (by rfl) (by rfl) (Nat.le_of_ble_eq_true (by rfl)) (by decide) dX0_fillRound_4 (c_X1_empty _ g _ (c + 3) hk3) (fun v M2 hz => ?_)
  obtain ⟨rfl, rfl⟩ := hz
  refine g_aload_n (pc := 7) F dX0_fillRound_7 rfl ?_
  refine g_geti (pc := 8) F fl_X0_25 (by assumption) rfl dX0_fillRound_8 ?_
  refine g_iconst (pc := 11) (v := 2) F dX0_fillRound_11 (by decide) ?_
  refine g_icmp_ne (pc := 12) (tgt := 49) F dX0_fillRound_12 (by decide) (fun c12 => ?_) (fun c12 => ?_)
  · refine g_iconst (pc := 49) (v := 0) F dX0_fillRound_49 (by decide) ?_
    refine g_istore_n (pc := 50) F dX0_fillRound_50 (by decide) rfl ?_
    exact L (by simpa only [updr_updr, updr_self, updr_ne _ _ (show c ≠ c + 3 by omega), updr_ne _ _ (show c + 1 ≠ c + 3 by omega)] using c12) 4 0 0 rfl nI_0.symm
  · refine g_aload_n (pc := 15) F dX0_fillRound_15 rfl ?_
    refine g_getr (pc := 16) F fl_X0_22 (by assumption) rfl dX0_fillRound_16 ?_
    refine g_aload_n (pc := 19) F dX0_fillRound_19 rfl ?_
    refine g_getr (pc := 20) F fl_X0_9 (by assumption) rfl dX0_fillRound_20 ?_
    refine g_iconst (pc := 23) (v := 0) F dX0_fillRound_23 (by decide) ?_
    refine g_iald (pc := 24) (q := 0) F (by assumption) rfl (by decide) (by decide) dX0_fillRound_24 ?_
    refine g_aload_n (pc := 25) F dX0_fillRound_25 rfl ?_
    refine g_getr (pc := 26) F fl_X0_9 (by assumption) rfl dX0_fillRound_26 ?_
    refine g_iconst (pc := 29) (v := 1) F dX0_fillRound_29 (by decide) ?_
    refine g_iald (pc := 30) (q := 1) F (by assumption) rfl (by decide) (by decide) dX0_fillRound_30 ?_
    refine g_callV (pc := 31) (rf2 := 0) (rl2 := 0) F cs_X0_53 (by assumption) rfl (by decide) (by rfl) (by rfl) (Nat.le_of_ble_eq_true (by rfl)) (by decide) dX0_fillRound_31 (c_X1_add _ g _ (c + 3) hk3 _ _) (fun v M2 hz => ?_)
    obtain ⟨rfl, rfl⟩ := hz
    refine g_aload_n (pc := 34) F dX0_fillRound_34 rfl ?_
    refine g_getr (pc := 35) F fl_X0_22 (by assumption) rfl dX0_fillRound_35 ?_
    refine g_aload_n (pc := 38) F dX0_fillRound_38 rfl ?_
    refine g_getr (pc := 39) F fl_X0_9 (by assumption) rfl dX0_fillRound_39 ?_
    refine g_iconst (pc := 42) (v := 2) F dX0_fillRound_42 (by decide) ?_
    refine g_iald (pc := 43) (q := 2) F (by assumption) rfl (by decide) (by decide) dX0_fillRound_43 ?_
    refine g_iconst (pc := 44) (v := 1) F dX0_fillRound_44 (by decide) ?_
    refine g_callV (pc := 45) (rf2 := 0) (rl2 := 0) F cs_X0_53 (by assumption) rfl (by decide) (by rfl) (by rfl) (Nat.le_of_ble_eq_true (by rfl)) (by decide) dX0_fillRound_45 (c_X1_add _ g _ (c + 3) hk3 _ _) (fun v M2 hz => ?_)
    obtain ⟨rfl, rfl⟩ := hz
    refine g_vret (pc := 48) F r dX0_fillRound_48 ?_
    refine ⟨rfl, ?_⟩
    simp only [updr_updr, updr_self, updr_ne _ _ (show c ≠ c + 3 by omega), updr_ne _ _ (show c + 1 ≠ c + 3 by omega)] at c12 ⊢
    rw [show rndR (rzero (M (c + 3))) (M c 0) (M (c + 1)) = radd (radd (rzero (M (c + 3))) (M (c + 1) 0) (M (c + 1) 1)) (M (c + 1) 2) 1 from if_pos c12]

def csetF (r : Nat → Int32) (la : Int32) : Nat → Int32 := fun j => if j = 0 then la else if j = 2 then -1 else if j = 3 then 0 else if j = 4 then 0 else if j = 5 then 0 else if j = 6 then 0 else if j = 7 then 0 else r j
def nset (r : Nat → Int32) (a b c d : Int32) : Nat → Int32 := fun j => if j = 0 then a else if j = 1 then b else if j = 2 then c else if j = 3 then d else r j
def csetM (M : Mem) (k : Nat) (la a b c d : Int32) : Mem := updr (updr (updr (updr M (k + 1) (nset (M (k + 1)) a b c d)) k (csetF (M k) la)) (k + 2) (rzero (M (k + 2)))) (k + 3) (rndR (rzero (M (k + 3))) la (nset (M (k + 1)) a b c d))
set_option maxHeartbeats 4000000 in
set_option maxRecDepth 100000 in
theorem c_X0_set (l : Launch) (g : Gm) (M : Mem) (k : Nat) (hk : kd k = 0) (la a b c d : Int32) : Cn l yX0_set cX0_set 6 none 2 43 g [.ref (ad g k), .int la, .int a, .int b, .int c, .int d] M (fun v M2 => v = none ∧ M2 = csetM M k la a b c d) := by
  refine Cn.intro (lv0 := [some (.ref (ad g k)), some (.int la), some (.int a), some (.int b), some (.int c), some (.int d)]) 0 (by decide +kernel) (Nat.le_of_ble_eq_true rfl) rfl (fun X F r => ?_)
  obtain ⟨hk1, hk2, hk3⟩ := kd_clk hk
  have hA : ∀ (M1 : Mem), M1 = updr (updr M (k + 1) (nset (M (k + 1)) a b c d)) k (csetF (M k) la) → G X g 6 M1 65 [some (.ref (ad g k)), some (.int la), some (.int a), some (.int b), some (.int c), some (.int d)] [] := by
    intro M1 hM1
    refine g_aload_n (pc := 65) F dX0_set_65 rfl ?_
    refine g_getr (pc := 66) F fl_X0_18 (by assumption) rfl dX0_set_66 ?_
    refine g_callV (pc := 69) (rf2 := 0) (rl2 := 0) F cs_X0_47 (by assumption) rfl (by decide) (by rfl) (by rfl) (Nat.le_of_ble_eq_true (by rfl)) (by decide) dX0_set_69 (c_X1_empty _ g _ (k + 2) hk2) (fun v M2 hz => ?_)
    obtain ⟨rfl, rfl⟩ := hz
    refine g_aload_n (pc := 72) F dX0_set_72 rfl ?_
    refine g_callV (pc := 73) (rf2 := 1) (rl2 := 22) F cs_X0_50 (by assumption) rfl (by decide) (by rfl) (by rfl) (Nat.le_of_ble_eq_true (by rfl)) (by decide) dX0_set_73 (c_X0_fillRound _ g _ k hk) (fun v M2 hz => ?_)
    obtain ⟨rfl, rfl⟩ := hz
    refine g_vret (pc := 76) F r dX0_set_76 ?_
    refine ⟨rfl, ?_⟩
    subst hM1
    unfold csetM
    simp only [updr_self, updr_ne _ _ (show k ≠ k + 2 by omega), updr_ne _ _ (show k + 1 ≠ k + 2 by omega), updr_ne _ _ (show k + 1 ≠ k by omega), updr_ne _ _ (show k + 2 ≠ k by omega), updr_ne _ _ (show k + 2 ≠ k + 1 by omega), updr_ne _ _ (show k + 3 ≠ k by omega), updr_ne _ _ (show k + 3 ≠ k + 1 by omega), updr_ne _ _ (show k + 3 ≠ k + 2 by omega)]
    rfl
  refine g_aload_n (pc := 0) F dX0_set_0 rfl ?_
  refine g_iload_n (pc := 1) F dX0_set_1 rfl ?_
  refine g_puti (pc := 2) F fl_X0_25 rfl rfl (by assumption) rfl dX0_set_2 ?_
  refine g_aload_n (pc := 5) F dX0_set_5 rfl ?_
  refine g_getr (pc := 6) F fl_X0_9 (by assumption) rfl dX0_set_6 ?_
  refine g_iconst (pc := 9) (v := 0) F dX0_set_9 (by decide) ?_
  refine g_iload_n (pc := 10) F dX0_set_10 rfl ?_
  refine g_iast (pc := 11) (q := 0) F (by assumption) rfl (by decide) (by decide) dX0_set_11 ?_
  refine g_aload_n (pc := 12) F dX0_set_12 rfl ?_
  refine g_getr (pc := 13) F fl_X0_9 (by assumption) rfl dX0_set_13 ?_
  refine g_iconst (pc := 16) (v := 1) F dX0_set_16 (by decide) ?_
  refine g_iload_n (pc := 17) F dX0_set_17 rfl ?_
  refine g_iast (pc := 18) (q := 1) F (by assumption) rfl (by decide) (by decide) dX0_set_18 ?_
  refine g_aload_n (pc := 19) F dX0_set_19 rfl ?_
  refine g_getr (pc := 20) F fl_X0_9 (by assumption) rfl dX0_set_20 ?_
  refine g_iconst (pc := 23) (v := 2) F dX0_set_23 (by decide) ?_
  refine g_iload (pc := 24) F dX0_set_24 rfl ?_
  refine g_iast (pc := 26) (q := 2) F (by assumption) rfl (by decide) (by decide) dX0_set_26 ?_
  refine g_aload_n (pc := 27) F dX0_set_27 rfl ?_
  refine g_getr (pc := 28) F fl_X0_9 (by assumption) rfl dX0_set_28 ?_
  refine g_iconst (pc := 31) (v := 3) F dX0_set_31 (by decide) ?_
  refine g_iload (pc := 32) F dX0_set_32 rfl ?_
  refine g_iast (pc := 34) (q := 3) F (by assumption) rfl (by decide) (by decide) dX0_set_34 ?_
  refine g_aload_n (pc := 35) F dX0_set_35 rfl ?_
  refine g_iconst (pc := 36) (v := -1) F dX0_set_36 (by decide) ?_
  refine g_puti (pc := 37) F fl_X0_29 rfl rfl (by assumption) rfl dX0_set_37 ?_
  refine g_aload_n (pc := 40) F dX0_set_40 rfl ?_
  refine g_iconst (pc := 41) (v := 0) F dX0_set_41 (by decide) ?_
  refine g_puti (pc := 42) F fl_X0_32 rfl rfl (by assumption) rfl dX0_set_42 ?_
  refine g_aload_n (pc := 45) F dX0_set_45 rfl ?_
  refine g_iconst (pc := 46) (v := 0) F dX0_set_46 (by decide) ?_
  refine g_puti (pc := 47) F fl_X0_35 rfl rfl (by assumption) rfl dX0_set_47 ?_
  refine g_aload_n (pc := 50) F dX0_set_50 rfl ?_
  refine g_iconst (pc := 51) (v := 0) F dX0_set_51 (by decide) ?_
  refine g_puti (pc := 52) F fl_X0_38 rfl rfl (by assumption) rfl dX0_set_52 ?_
  refine g_aload_n (pc := 55) F dX0_set_55 rfl ?_
  refine g_iconst (pc := 56) (v := 0) F dX0_set_56 (by decide) ?_
  refine g_puti (pc := 57) F fl_X0_41 rfl rfl (by assumption) rfl dX0_set_57 ?_
  refine g_aload_n (pc := 60) F dX0_set_60 rfl ?_
  refine g_iconst (pc := 61) (v := 0) F dX0_set_61 (by decide) ?_
  refine g_puti (pc := 62) F fl_X0_44 rfl rfl (by assumption) rfl dX0_set_62 ?_
  refine hA _ ?_
  funext x y
  simp only [upd2_get, updr_get, csetF, nset]
  by_cases h1 : x = k
  · subst h1
    simp only [if_true, show ¬ x = x + 1 by omega, show ¬ x + 1 = x by omega, if_false]
    by_cases h0 : y = 0 <;> by_cases h2 : y = 2 <;> by_cases h3 : y = 3 <;> by_cases h4 : y = 4 <;> by_cases h5 : y = 5 <;> by_cases h6 : y = 6 <;> by_cases h7 : y = 7 <;> simp [h0, h2, h3, h4, h5, h6, h7]
  · by_cases hx : x = k + 1
    · subst hx
      simp only [if_true, show ¬ k + 1 = k by omega, show ¬ k = k + 1 by omega, if_false]
      by_cases h0 : y = 0 <;> by_cases h2 : y = 2 <;> by_cases h3 : y = 3 <;> by_cases h4 : y = 1 <;> simp [h0, h2, h3, h4]
    · simp [h1, hx]

def ccpF (r r2 : Nat → Int32) : Nat → Int32 := fun j => if j = 0 then r2 0 else if j = 2 then r2 2 else if j = 3 then r2 3 else if j = 4 then r2 4 else if j = 5 then r2 5 else if j = 6 then r2 6 else if j = 7 then r2 7 else r j
def ccpM (M : Mem) (k o : Nat) : Mem := updr (updr (updr (updr M (k + 1) (va_cpy (M (o + 1)) (M (k + 1)) 0 0 4)) k (ccpF (M k) (M o))) (k + 2) (rcopy (M (k + 2)) (M (o + 2)))) (k + 3) (rcopy (M (k + 3)) (M (o + 3)))
set_option maxHeartbeats 4000000 in
set_option maxRecDepth 100000 in
theorem c_X0_copyFrom (l : Launch) (g : Gm) (M : Mem) (k o : Nat) (hk : kd k = 0) (ho : kd o = 0) (hd1 : k + 4 ≤ o ∨ o + 4 ≤ k) : Cn l yX0_copyFrom cX0_copyFrom 2 none 1 40 g [.ref (ad g k), .ref (ad g o)] M (fun v M2 => v = none ∧ M2 = ccpM M k o) := by
  refine Cn.intro (lv0 := [some (.ref (ad g k)), some (.ref (ad g o))]) 0 (by decide +kernel) (Nat.le_of_ble_eq_true rfl) rfl (fun X F r => ?_)
  obtain ⟨hk1, hk2, hk3⟩ := kd_clk hk
  obtain ⟨ho1, ho2, ho3⟩ := kd_clk ho
  have hA : ∀ (M1 : Mem), M1 = updr (updr M (k + 1) (va_cpy (M (o + 1)) (M (k + 1)) 0 0 4)) k (ccpF (M k) (M o)) → G X g 2 M1 70 [some (.ref (ad g k)), some (.ref (ad g o))] [] := by
    intro M1 hM1
    refine g_aload_n (pc := 70) F dX0_copyFrom_70 rfl ?_
    refine g_getr (pc := 71) F fl_X0_18 (by assumption) rfl dX0_copyFrom_71 ?_
    refine g_aload_n (pc := 74) F dX0_copyFrom_74 rfl ?_
    refine g_getr (pc := 75) F fl_X0_18 (by assumption) rfl dX0_copyFrom_75 ?_
    refine g_callV (pc := 78) (rf2 := 0) (rl2 := 0) F cs_X0_63 (by assumption) rfl (by decide) (by rfl) (by rfl) (Nat.le_of_ble_eq_true (by rfl)) (by decide) dX0_copyFrom_78 (c_X1_copyFrom _ g _ (k + 2) (o + 2) hk2 ho2 (by omega)) (fun v M2 hz => ?_)
    obtain ⟨rfl, rfl⟩ := hz
    refine g_aload_n (pc := 81) F dX0_copyFrom_81 rfl ?_
    refine g_getr (pc := 82) F fl_X0_22 (by assumption) rfl dX0_copyFrom_82 ?_
    refine g_aload_n (pc := 85) F dX0_copyFrom_85 rfl ?_
    refine g_getr (pc := 86) F fl_X0_22 (by assumption) rfl dX0_copyFrom_86 ?_
    refine g_callV (pc := 89) (rf2 := 0) (rl2 := 0) F cs_X0_63 (by assumption) rfl (by decide) (by rfl) (by rfl) (Nat.le_of_ble_eq_true (by rfl)) (by decide) dX0_copyFrom_89 (c_X1_copyFrom _ g _ (k + 3) (o + 3) hk3 ho3 (by omega)) (fun v M2 hz => ?_)
    obtain ⟨rfl, rfl⟩ := hz
    refine g_vret (pc := 92) F r dX0_copyFrom_92 ?_
    refine ⟨rfl, ?_⟩
    subst hM1
    unfold ccpM
    simp only [updr_ne _ _ (show k + 2 ≠ k by omega), updr_ne _ _ (show k + 2 ≠ k + 1 by omega), updr_ne _ _ (show k + 3 ≠ k by omega), updr_ne _ _ (show k + 3 ≠ k + 1 by omega), updr_ne _ _ (show k + 3 ≠ k + 2 by omega), updr_ne _ _ (show o + 2 ≠ k by omega), updr_ne _ _ (show o + 2 ≠ k + 1 by omega), updr_ne _ _ (show o + 3 ≠ k by omega), updr_ne _ _ (show o + 3 ≠ k + 1 by omega), updr_ne _ _ (show o + 3 ≠ k + 2 by omega)]
  refine g_aload_n (pc := 0) F dX0_copyFrom_0 rfl ?_
  refine g_aload_n (pc := 1) F dX0_copyFrom_1 rfl ?_
  refine g_geti (pc := 2) F fl_X0_25 (by assumption) rfl dX0_copyFrom_2 ?_
  refine g_puti (pc := 5) F fl_X0_25 rfl rfl (by assumption) rfl dX0_copyFrom_5 ?_
  refine g_aload_n (pc := 8) F dX0_copyFrom_8 rfl ?_
  refine g_getr (pc := 9) F fl_X0_9 (by assumption) rfl dX0_copyFrom_9 ?_
  refine g_iconst (pc := 12) (v := 0) F dX0_copyFrom_12 (by decide) ?_
  refine g_aload_n (pc := 13) F dX0_copyFrom_13 rfl ?_
  refine g_getr (pc := 14) F fl_X0_9 (by assumption) rfl dX0_copyFrom_14 ?_
  refine g_iconst (pc := 17) (v := 0) F dX0_copyFrom_17 (by decide) ?_
  refine g_iconst (pc := 18) (v := 4) F dX0_copyFrom_18 (by decide) ?_
  refine g_copy4 (pc := 19) F ho1 hk1 ⟨wl_X0_57, wn_arraycopy, wt_arraycopy, wz_J10⟩ (by decide) (by decide) dX0_copyFrom_19 ?_
  refine g_aload_n (pc := 22) F dX0_copyFrom_22 rfl ?_
  refine g_aload_n (pc := 23) F dX0_copyFrom_23 rfl ?_
  refine g_geti (pc := 24) F fl_X0_29 (by assumption) rfl dX0_copyFrom_24 ?_
  refine g_puti (pc := 27) F fl_X0_29 rfl rfl (by assumption) rfl dX0_copyFrom_27 ?_
  refine g_aload_n (pc := 30) F dX0_copyFrom_30 rfl ?_
  refine g_aload_n (pc := 31) F dX0_copyFrom_31 rfl ?_
  refine g_geti (pc := 32) F fl_X0_32 (by assumption) rfl dX0_copyFrom_32 ?_
  refine g_puti (pc := 35) F fl_X0_32 rfl rfl (by assumption) rfl dX0_copyFrom_35 ?_
  refine g_aload_n (pc := 38) F dX0_copyFrom_38 rfl ?_
  refine g_aload_n (pc := 39) F dX0_copyFrom_39 rfl ?_
  refine g_geti (pc := 40) F fl_X0_35 (by assumption) rfl dX0_copyFrom_40 ?_
  refine g_puti (pc := 43) F fl_X0_35 rfl rfl (by assumption) rfl dX0_copyFrom_43 ?_
  refine g_aload_n (pc := 46) F dX0_copyFrom_46 rfl ?_
  refine g_aload_n (pc := 47) F dX0_copyFrom_47 rfl ?_
  refine g_geti (pc := 48) F fl_X0_38 (by assumption) rfl dX0_copyFrom_48 ?_
  refine g_puti (pc := 51) F fl_X0_38 rfl rfl (by assumption) rfl dX0_copyFrom_51 ?_
  refine g_aload_n (pc := 54) F dX0_copyFrom_54 rfl ?_
  refine g_aload_n (pc := 55) F dX0_copyFrom_55 rfl ?_
  refine g_geti (pc := 56) F fl_X0_41 (by assumption) rfl dX0_copyFrom_56 ?_
  refine g_puti (pc := 59) F fl_X0_41 rfl rfl (by assumption) rfl dX0_copyFrom_59 ?_
  refine g_aload_n (pc := 62) F dX0_copyFrom_62 rfl ?_
  refine g_aload_n (pc := 63) F dX0_copyFrom_63 rfl ?_
  refine g_geti (pc := 64) F fl_X0_44 (by assumption) rfl dX0_copyFrom_64 ?_
  refine g_puti (pc := 67) F fl_X0_44 rfl rfl (by assumption) rfl dX0_copyFrom_67 ?_
  refine hA _ ?_
  funext x y
  have e1 : ¬ o = k := by omega
  have e2 : ¬ o = k + 1 := by omega
  simp only [upd2_get, updr_get, ccpF]
  by_cases h1 : x = k
  · subst h1
    simp only [if_true, show ¬ x = x + 1 by omega, show ¬ x + 1 = x by omega, if_false, e1, e2]
    by_cases h0 : y = 0 <;> by_cases h2 : y = 2 <;> by_cases h3 : y = 3 <;> by_cases h4 : y = 4 <;> by_cases h5 : y = 5 <;> by_cases h6 : y = 6 <;> by_cases h7 : y = 7 <;> simp [h0, h2, h3, h4, h5, h6, h7]
  · by_cases hx : x = k + 1
    · subst hx
      have e4 : ¬ o + 1 = k := by omega
      have e5 : upd2 M k 0 (M o 0) (o + 1) = M (o + 1) := upd2_k M 0 _ e4
      have e6 : upd2 M k 0 (M o 0) (k + 1) = M (k + 1) := upd2_k M 0 _ (by omega)
      simp only [if_true, show ¬ k + 1 = k by omega, show ¬ k = k + 1 by omega, if_false, e5, e6]
    · simp [h1, hx]

set_option maxHeartbeats 4000000 in
set_option maxRecDepth 100000 in
theorem c_X0_age (l : Launch) (g : Gm) (M : Mem) (k : Nat) (hk : kd k = 0) : Cn l yX0_age cX0_age 1 (some .int) 0 0 g [.ref (ad g k)] M (fun v M2 => v = some (.int (M k 3 - M k 4)) ∧ M2 = M) := by
  refine Cn.intro (lv0 := [some (.ref (ad g k))]) 0 (by decide +kernel) (Nat.le_of_ble_eq_true rfl) rfl (fun X F r => ?_)
  refine g_aload_n (pc := 0) F dX0_age_0 rfl ?_
  refine g_geti (pc := 1) F fl_X0_32 (by assumption) rfl dX0_age_1 ?_
  refine g_aload_n (pc := 4) F dX0_age_4 rfl ?_
  refine g_geti (pc := 5) F fl_X0_35 (by assumption) rfl dX0_age_5 ?_
  refine g_isub (pc := 8) F dX0_age_8 ?_
  refine g_iret (pc := 9) F r dX0_age_9 ?_
  exact ⟨rfl, rfl⟩

set_option maxHeartbeats 4000000 in
set_option maxRecDepth 100000 in
theorem c_X0_placeInTurn (l : Launch) (g : Gm) (M : Mem) (k : Nat) (hk : kd k = 0) : Cn l yX0_placeInTurn cX0_placeInTurn 1 (some .int) 0 0 g [.ref (ad g k)] M (fun v M2 => v = some (.int (if M k 2 + 1 < M (k + 3) 0 then M k 2 + 1 else 0)) ∧ M2 = M) := by
  refine Cn.intro (lv0 := [some (.ref (ad g k))]) 0 (by decide +kernel) (Nat.le_of_ble_eq_true rfl) rfl (fun X F r => ?_)
  obtain ⟨hk1, hk2, hk3⟩ := kd_clk hk
  refine g_aload_n (pc := 0) F dX0_placeInTurn_0 rfl ?_
  refine g_geti (pc := 1) F fl_X0_29 (by assumption) rfl dX0_placeInTurn_1 ?_
  refine g_iconst (pc := 4) (v := 1) F dX0_placeInTurn_4 (by decide) ?_
  refine g_iadd (pc := 5) F dX0_placeInTurn_5 ?_
  refine g_aload_n (pc := 6) F dX0_placeInTurn_6 rfl ?_
  refine g_getr (pc := 7) F fl_X0_22 (by assumption) rfl dX0_placeInTurn_7 ?_
  refine g_geti (pc := 10) F fl_X0_67 (by assumption) rfl dX0_placeInTurn_10 ?_
  refine g_icmp_ge (pc := 13) (tgt := 25) F dX0_placeInTurn_13 (by decide) (fun c13 => ?_) (fun c13 => ?_)
  · refine g_iconst (pc := 25) (v := 0) F dX0_placeInTurn_25 (by decide) ?_
    refine g_iret (pc := 26) F r dX0_placeInTurn_26 ?_
    refine ⟨?_, rfl⟩
    first | rw [if_neg (Int32.not_lt.mpr c13)] | rw [if_pos (Int32.not_le.mp c13)]
  · refine g_aload_n (pc := 16) F dX0_placeInTurn_16 rfl ?_
    refine g_geti (pc := 17) F fl_X0_29 (by assumption) rfl dX0_placeInTurn_17 ?_
    refine g_iconst (pc := 20) (v := 1) F dX0_placeInTurn_20 (by decide) ?_
    refine g_iadd (pc := 21) F dX0_placeInTurn_21 ?_
    refine g_goto (pc := 22) (tgt := 26) F dX0_placeInTurn_22 (by decide) ?_
    refine g_iret (pc := 26) F r dX0_placeInTurn_26 ?_
    refine ⟨?_, rfl⟩
    first | rw [if_neg (Int32.not_lt.mpr c13)] | rw [if_pos (Int32.not_le.mp c13)]

def gapF (la : Int32) (f : Nat → Int32) (p : Int32) : Int32 := if la = 2 then (if p < f 1 then f 0 else f 2) else if 0 ≤ p ∧ p < 4 then f p.toNatClampNeg else f 0
def cbegF (r : Nat → Int32) (p gp : Int32) : Nat → Int32 := fun j => if j = 2 then p else if j = 3 then gp else if j = 4 then gp else r j
theorem i_range4 {p : Int32} (h0 : 0 ≤ p) (h4 : p < 4) : ∃ q : Nat, q < 4 ∧ p = nI q := by
  have a1 := Int32.le_iff_toInt_le.mp h0
  have a2 := Int32.lt_iff_toInt_lt.mp h4
  have e0 : (0 : Int32).toInt = 0 := rfl
  have e4 : (4 : Int32).toInt = 4 := rfl
  exact vp_in_of (vp_in_iff.mpr ⟨by omega, by omega⟩) (by decide)
set_option maxHeartbeats 4000000 in
set_option maxRecDepth 100000 in
theorem c_X0_beginAt (l : Launch) (g : Gm) (M : Mem) (k : Nat) (hk : kd k = 0) (p : Int32) : Cn l yX0_beginAt cX0_beginAt 2 none 0 0 g [.ref (ad g k), .int p] M (fun v M2 => v = none ∧ M2 = updr M k (cbegF (M k) p (gapF (M k 0) (M (k + 1)) p))) := by
  refine Cn.intro (lv0 := [some (.ref (ad g k)), some (.int p)]) 0 (by decide +kernel) (Nat.le_of_ble_eq_true rfl) rfl (fun X F r => ?_)
  obtain ⟨hk1, hk2, hk3⟩ := kd_clk hk
  have hE : ∀ (gp : Int32) (M1 : Mem), gp = gapF (M k 0) (M (k + 1)) p → M1 = upd2 M k 2 p → ∀ pc : Nat, pc = 42 ∨ pc = 86 → G X g 2 M1 pc [some (.ref (ad g k)), some (.int p)] [.int gp, .ref (ad g k)] := by
    intro gp M1 hgp hM1 pc hpc
    have hF : ∀ M1 : Mem, M1 = upd2 (upd2 M k 2 p) k 3 gp → G X g 2 M1 89 [some (.ref (ad g k)), some (.int p)] [] := by
      intro M1 hM1
      refine g_aload_n (pc := 89) F dX0_beginAt_89 rfl ?_
      refine g_aload_n (pc := 90) F dX0_beginAt_90 rfl ?_
      refine g_geti (pc := 91) F fl_X0_32 (by assumption) rfl dX0_beginAt_91 ?_
      refine g_puti (pc := 94) F fl_X0_35 rfl rfl (by assumption) rfl dX0_beginAt_94 ?_
      refine g_vret (pc := 97) F r dX0_beginAt_97 ?_
      refine ⟨rfl, ?_⟩
      subst hM1
      simp only [upd2_updr, updr_upd2, updr_self, updr_updr, upd]
      refine congrArg (updr M k) (funext fun j => ?_)
      rw [← hgp]
      by_cases h2 : j = 2 <;> by_cases h3 : j = 3 <;> by_cases h4 : j = 4 <;> simp_all [cbegF, upd]
    rcases hpc with rfl | rfl
    · refine g_puti (pc := 42) F fl_X0_32 rfl rfl (by assumption) rfl dX0_beginAt_42 ?_
      refine g_goto (pc := 45) (tgt := 89) F dX0_beginAt_45 (by decide) ?_
      exact hF _ (by rw [hM1])
    · refine g_puti (pc := 86) F fl_X0_32 rfl rfl (by assumption) rfl dX0_beginAt_86 ?_
      exact hF _ (by rw [hM1])
  refine g_aload_n (pc := 0) F dX0_beginAt_0 rfl ?_
  refine g_iload_n (pc := 1) F dX0_beginAt_1 rfl ?_
  refine g_puti (pc := 2) F fl_X0_29 rfl rfl (by assumption) rfl dX0_beginAt_2 ?_
  refine g_aload_n (pc := 5) F dX0_beginAt_5 rfl ?_
  refine g_geti (pc := 6) F fl_X0_25 (by assumption) rfl dX0_beginAt_6 ?_
  refine g_iconst (pc := 9) (v := 2) F dX0_beginAt_9 (by decide) ?_
  refine g_icmp_ne (pc := 10) (tgt := 48) F dX0_beginAt_10 (by decide) (fun c10 => ?_) (fun c10 => ?_)
  · simp only [upd2_j M k p (show (0 : Nat) ≠ 2 by decide)] at c10
    refine g_aload_n (pc := 48) F dX0_beginAt_48 rfl ?_
    refine g_aload_n (pc := 49) F dX0_beginAt_49 rfl ?_
    refine g_geti (pc := 50) F fl_X0_29 (by assumption) rfl dX0_beginAt_50 ?_
    refine g_if_lt (pc := 53) (tgt := 80) F dX0_beginAt_53 (by decide) (fun c53 => ?_) (fun c53 => ?_)
    · simp only [upd2_self] at c53
      refine g_aload_n (pc := 80) F dX0_beginAt_80 rfl ?_
      refine g_getr (pc := 81) F fl_X0_9 (by assumption) rfl dX0_beginAt_81 ?_
      refine g_iconst (pc := 84) (v := 0) F dX0_beginAt_84 (by decide) ?_
      refine g_iald (pc := 85) (q := 0) F (by assumption) rfl (by decide) (by decide) dX0_beginAt_85 ?_
      refine hE _ _ ?_ rfl 86 (Or.inr rfl)
      simp only [upd2_k M 2 p (show k + 1 ≠ k by omega)]
      unfold gapF
      rw [if_neg c10]
      first | rw [if_neg (fun h => Int32.not_lt.mpr h.1 c53)] | rw [if_neg (fun h => Int32.not_le.mpr h.2 c65)] | (rw [if_pos ⟨Int32.not_lt.mp c53, Int32.not_le.mp c65⟩, hpq, nI_clamp (by omega)])
    · simp only [upd2_self] at c53
      refine g_aload_n (pc := 56) F dX0_beginAt_56 rfl ?_
      refine g_geti (pc := 57) F fl_X0_29 (by assumption) rfl dX0_beginAt_57 ?_
      refine g_aload_n (pc := 60) F dX0_beginAt_60 rfl ?_
      refine g_getr (pc := 61) F fl_X0_9 (by assumption) rfl dX0_beginAt_61 ?_
      refine g_alen (pc := 64) F (by assumption) rfl (v := 4) (by decide) dX0_beginAt_64 ?_
      refine g_icmp_ge (pc := 65) (tgt := 80) F dX0_beginAt_65 (by decide) (fun c65 => ?_) (fun c65 => ?_)
      · simp only [upd2_self] at c65
        refine g_aload_n (pc := 80) F dX0_beginAt_80 rfl ?_
        refine g_getr (pc := 81) F fl_X0_9 (by assumption) rfl dX0_beginAt_81 ?_
        refine g_iconst (pc := 84) (v := 0) F dX0_beginAt_84 (by decide) ?_
        refine g_iald (pc := 85) (q := 0) F (by assumption) rfl (by decide) (by decide) dX0_beginAt_85 ?_
        refine hE _ _ ?_ rfl 86 (Or.inr rfl)
        simp only [upd2_k M 2 p (show k + 1 ≠ k by omega)]
        unfold gapF
        rw [if_neg c10]
        first | rw [if_neg (fun h => Int32.not_lt.mpr h.1 c53)] | rw [if_neg (fun h => Int32.not_le.mpr h.2 c65)] | (rw [if_pos ⟨Int32.not_lt.mp c53, Int32.not_le.mp c65⟩, hpq, nI_clamp (by omega)])
      · simp only [upd2_self] at c65
        obtain ⟨q, hq, hpq⟩ := i_range4 (Int32.not_lt.mp c53) (Int32.not_le.mp c65)
        refine g_aload_n (pc := 68) F dX0_beginAt_68 rfl ?_
        refine g_getr (pc := 69) F fl_X0_9 (by assumption) rfl dX0_beginAt_69 ?_
        refine g_aload_n (pc := 72) F dX0_beginAt_72 rfl ?_
        refine g_geti (pc := 73) F fl_X0_29 (by assumption) rfl dX0_beginAt_73 ?_
        refine g_iald (pc := 76) (q := q) F (by assumption) rfl (by rw [upd2_self]; exact hpq) hq dX0_beginAt_76 ?_
        refine g_goto (pc := 77) (tgt := 86) F dX0_beginAt_77 (by decide) ?_
        refine hE _ _ ?_ rfl 86 (Or.inr rfl)
        simp only [upd2_k M 2 p (show k + 1 ≠ k by omega)]
        unfold gapF
        rw [if_neg c10]
        first | rw [if_neg (fun h => Int32.not_lt.mpr h.1 c53)] | rw [if_neg (fun h => Int32.not_le.mpr h.2 c65)] | (rw [if_pos ⟨Int32.not_lt.mp c53, Int32.not_le.mp c65⟩, hpq, nI_clamp (by omega)])
  · simp only [upd2_j M k p (show (0 : Nat) ≠ 2 by decide)] at c10
    refine g_aload_n (pc := 13) F dX0_beginAt_13 rfl ?_
    refine g_aload_n (pc := 14) F dX0_beginAt_14 rfl ?_
    refine g_geti (pc := 15) F fl_X0_29 (by assumption) rfl dX0_beginAt_15 ?_
    refine g_aload_n (pc := 18) F dX0_beginAt_18 rfl ?_
    refine g_getr (pc := 19) F fl_X0_9 (by assumption) rfl dX0_beginAt_19 ?_
    refine g_iconst (pc := 22) (v := 1) F dX0_beginAt_22 (by decide) ?_
    refine g_iald (pc := 23) (q := 1) F (by assumption) rfl (by decide) (by decide) dX0_beginAt_23 ?_
    refine g_icmp_ge (pc := 24) (tgt := 36) F dX0_beginAt_24 (by decide) (fun c24 => ?_) (fun c24 => ?_)
    · refine g_aload_n (pc := 36) F dX0_beginAt_36 rfl ?_
      refine g_getr (pc := 37) F fl_X0_9 (by assumption) rfl dX0_beginAt_37 ?_
      refine g_iconst (pc := 40) (v := 2) F dX0_beginAt_40 (by decide) ?_
      refine g_iald (pc := 41) (q := 2) F (by assumption) rfl (by decide) (by decide) dX0_beginAt_41 ?_
      refine hE _ _ ?_ rfl 42 (Or.inl rfl)
      simp only [upd2_self, upd2_j M k p (show (0 : Nat) ≠ 2 by decide), upd2_k M 2 p (show k + 1 ≠ k by omega)] at *
      unfold gapF
      rw [if_pos c10]
      first | rw [if_neg (Int32.not_lt.mpr c24)] | rw [if_pos (Int32.not_le.mp c24)]
    · refine g_aload_n (pc := 27) F dX0_beginAt_27 rfl ?_
      refine g_getr (pc := 28) F fl_X0_9 (by assumption) rfl dX0_beginAt_28 ?_
      refine g_iconst (pc := 31) (v := 0) F dX0_beginAt_31 (by decide) ?_
      refine g_iald (pc := 32) (q := 0) F (by assumption) rfl (by decide) (by decide) dX0_beginAt_32 ?_
      refine g_goto (pc := 33) (tgt := 42) F dX0_beginAt_33 (by decide) ?_
      refine hE _ _ ?_ rfl 42 (Or.inl rfl)
      simp only [upd2_self, upd2_j M k p (show (0 : Nat) ≠ 2 by decide), upd2_k M 2 p (show k + 1 ≠ k by omega)] at *
      unfold gapF
      rw [if_pos c10]
      first | rw [if_neg (Int32.not_lt.mpr c24)] | rw [if_pos (Int32.not_le.mp c24)]

def tickM (M : Mem) (k : Nat) : Mem := if M k 4 - 1 ≤ 0 then updr (updr M k (upd (M k) 4 (M k 4 - 1))) (k + 2) (radd (M (k + 2)) (M k 3) 1) else updr M k (upd (M k) 4 (M k 4 - 1))
set_option maxHeartbeats 4000000 in
set_option maxRecDepth 100000 in
theorem c_X0_passTick (l : Launch) (g : Gm) (M : Mem) (k : Nat) (hk : kd k = 0) : Cn l yX0_passTick cX0_passTick 1 (some .boolean) 1 22 g [.ref (ad g k)] M (fun v M2 => v = some (.int (b2i (M k 4 - 1 ≤ 0))) ∧ M2 = tickM M k) := by
  refine Cn.intro (lv0 := [some (.ref (ad g k))]) 0 (by decide +kernel) (Nat.le_of_ble_eq_true rfl) rfl (fun X F r => ?_)
  obtain ⟨hk1, hk2, hk3⟩ := kd_clk hk
  refine g_aload_n (pc := 0) F dX0_passTick_0 rfl ?_
  refine g_dup (pc := 1) F dX0_passTick_1 rfl ?_
  refine g_geti (pc := 2) F fl_X0_35 (by assumption) rfl dX0_passTick_2 ?_
  refine g_iconst (pc := 5) (v := 1) F dX0_passTick_5 (by decide) ?_
  refine g_isub (pc := 6) F dX0_passTick_6 ?_
  refine g_puti (pc := 7) F fl_X0_35 rfl rfl (by assumption) rfl dX0_passTick_7 ?_
  refine g_aload_n (pc := 10) F dX0_passTick_10 rfl ?_
  refine g_geti (pc := 11) F fl_X0_35 (by assumption) rfl dX0_passTick_11 ?_
  refine g_if_le (pc := 14) (tgt := 19) F dX0_passTick_14 (by decide) (fun c14 => ?_) (fun c14 => ?_)
  · rw [upd2_self] at c14
    refine g_aload_n (pc := 19) F dX0_passTick_19 rfl ?_
    refine g_getr (pc := 20) F fl_X0_18 (by assumption) rfl dX0_passTick_20 ?_
    refine g_aload_n (pc := 23) F dX0_passTick_23 rfl ?_
    refine g_geti (pc := 24) F fl_X0_32 (by assumption) rfl dX0_passTick_24 ?_
    refine g_iconst (pc := 27) (v := 1) F dX0_passTick_27 (by decide) ?_
    refine g_callV (pc := 28) (rf2 := 0) (rl2 := 0) F cs_X0_53 (by assumption) rfl (by decide) (by rfl) (by rfl) (Nat.le_of_ble_eq_true (by rfl)) (by decide) dX0_passTick_28 (c_X1_add _ g _ (k + 2) hk2 _ _) (fun v M2 hz => ?_)
    obtain ⟨rfl, rfl⟩ := hz
    refine g_iconst (pc := 31) (v := 1) F dX0_passTick_31 (by decide) ?_
    refine g_zret (pc := 32) F (by decide) r dX0_passTick_32 ?_
    unfold tickM b2i
    rw [if_pos c14, if_pos c14, upd2_updr, updr_ne _ _ (show k + 2 ≠ k by omega), updr_self]
    exact ⟨rfl, rfl⟩
  · rw [upd2_self] at c14
    refine g_iconst (pc := 17) (v := 0) F dX0_passTick_17 (by decide) ?_
    refine g_zret (pc := 18) F (by decide) r dX0_passTick_18 ?_
    unfold tickM b2i
    rw [if_neg c14, if_neg c14, upd2_updr]
    exact ⟨rfl, rfl⟩

/-- what a clock tells -/
def tellV (M : Mem) (k q : Nat) : Int32 := match q with
  | 0 => M k 0
  | 1 => M (k + 1) 0
  | 2 => M (k + 1) 1
  | 3 => M (k + 1) 2
  | 4 => M (k + 1) 3
  | 5 => M k 3
  | 6 => M k 3 - M k 4
  | 7 => M k 4
  | 8 => M (k + 2) 0
  | 9 => M (k + 2) 1
  | 10 => if M (k + 2) 0 = 0 then -1000004 else M (k + 2) 4
  | 11 => M k 5
  | 12 => M k 6
  | _ => M k 7
set_option maxHeartbeats 4000000 in
set_option maxRecDepth 100000 in
theorem c_X0_tell (l : Launch) (g : Gm) (M : Mem) (k : Nat) (hk : kd k = 0) (q : Nat) (hq : q < 14) : Cn l yX0_tell cX0_tell 2 (some .int) 1 20 g [.ref (ad g k), .int (nI q)] M (fun v M2 => v = some (.int (tellV M k q)) ∧ M2 = M) := by
  refine Cn.intro (lv0 := [some (.ref (ad g k)), some (.int (nI q))]) 0 (by decide +kernel) (Nat.le_of_ble_eq_true rfl) rfl (fun X F r => ?_)
  obtain ⟨hk1, hk2, hk3⟩ := kd_clk hk
  match q, hq with
  | 0, _ =>
      refine g_iload_n (pc := 0) F dX0_tell_0 rfl ?_
      refine g_iconst (pc := 1) (v := 1) F dX0_tell_1 (by decide) ?_
      refine g_icmp_lt (pc := 2) (tgt := 19) F dX0_tell_2 (by decide) (fun c2 => ?_) (fun c2 => ?_)
      · refine g_iload_n (pc := 19) F dX0_tell_19 rfl ?_
        refine g_tableIn (pc := 20) (tgt := 88) F dX0_tell_20 (by decide) (by decide) (by rfl) (by decide) ?_
        refine g_aload_n (pc := 88) F dX0_tell_88 rfl ?_
        refine g_geti (pc := 89) F fl_X0_25 (by assumption) rfl dX0_tell_89 ?_
        refine g_iret (pc := 92) F r dX0_tell_92 ?_
        exact ⟨rfl, rfl⟩
      · exact absurd (by decide) c2
  | 1, _ =>
      refine g_iload_n (pc := 0) F dX0_tell_0 rfl ?_
      refine g_iconst (pc := 1) (v := 1) F dX0_tell_1 (by decide) ?_
      refine g_icmp_lt (pc := 2) (tgt := 19) F dX0_tell_2 (by decide) (fun c2 => ?_) (fun c2 => ?_)
      · exact absurd c2 (by decide)
      · refine g_iload_n (pc := 5) F dX0_tell_5 rfl ?_
        refine g_iconst (pc := 6) (v := 4) F dX0_tell_6 (by decide) ?_
        refine g_icmp_gt (pc := 7) (tgt := 19) F dX0_tell_7 (by decide) (fun c7 => ?_) (fun c7 => ?_)
        · exact absurd c7 (by decide)
        · refine g_aload_n (pc := 10) F dX0_tell_10 rfl ?_
          refine g_getr (pc := 11) F fl_X0_9 (by assumption) rfl dX0_tell_11 ?_
          refine g_iload_n (pc := 14) F dX0_tell_14 rfl ?_
          refine g_iconst (pc := 15) (v := 1) F dX0_tell_15 (by decide) ?_
          refine g_isub (pc := 16) F dX0_tell_16 ?_
          refine g_iald (pc := 17) (q := 0) F (by assumption) rfl (by decide) (by decide) dX0_tell_17 ?_
          refine g_iret (pc := 18) F r dX0_tell_18 ?_
          exact ⟨rfl, rfl⟩
  | 2, _ =>
      refine g_iload_n (pc := 0) F dX0_tell_0 rfl ?_
      refine g_iconst (pc := 1) (v := 1) F dX0_tell_1 (by decide) ?_
      refine g_icmp_lt (pc := 2) (tgt := 19) F dX0_tell_2 (by decide) (fun c2 => ?_) (fun c2 => ?_)
      · exact absurd c2 (by decide)
      · refine g_iload_n (pc := 5) F dX0_tell_5 rfl ?_
        refine g_iconst (pc := 6) (v := 4) F dX0_tell_6 (by decide) ?_
        refine g_icmp_gt (pc := 7) (tgt := 19) F dX0_tell_7 (by decide) (fun c7 => ?_) (fun c7 => ?_)
        · exact absurd c7 (by decide)
        · refine g_aload_n (pc := 10) F dX0_tell_10 rfl ?_
          refine g_getr (pc := 11) F fl_X0_9 (by assumption) rfl dX0_tell_11 ?_
          refine g_iload_n (pc := 14) F dX0_tell_14 rfl ?_
          refine g_iconst (pc := 15) (v := 1) F dX0_tell_15 (by decide) ?_
          refine g_isub (pc := 16) F dX0_tell_16 ?_
          refine g_iald (pc := 17) (q := 1) F (by assumption) rfl (by decide) (by decide) dX0_tell_17 ?_
          refine g_iret (pc := 18) F r dX0_tell_18 ?_
          exact ⟨rfl, rfl⟩
  | 3, _ =>
      refine g_iload_n (pc := 0) F dX0_tell_0 rfl ?_
      refine g_iconst (pc := 1) (v := 1) F dX0_tell_1 (by decide) ?_
      refine g_icmp_lt (pc := 2) (tgt := 19) F dX0_tell_2 (by decide) (fun c2 => ?_) (fun c2 => ?_)
      · exact absurd c2 (by decide)
      · refine g_iload_n (pc := 5) F dX0_tell_5 rfl ?_
        refine g_iconst (pc := 6) (v := 4) F dX0_tell_6 (by decide) ?_
        refine g_icmp_gt (pc := 7) (tgt := 19) F dX0_tell_7 (by decide) (fun c7 => ?_) (fun c7 => ?_)
        · exact absurd c7 (by decide)
        · refine g_aload_n (pc := 10) F dX0_tell_10 rfl ?_
          refine g_getr (pc := 11) F fl_X0_9 (by assumption) rfl dX0_tell_11 ?_
          refine g_iload_n (pc := 14) F dX0_tell_14 rfl ?_
          refine g_iconst (pc := 15) (v := 1) F dX0_tell_15 (by decide) ?_
          refine g_isub (pc := 16) F dX0_tell_16 ?_
          refine g_iald (pc := 17) (q := 2) F (by assumption) rfl (by decide) (by decide) dX0_tell_17 ?_
          refine g_iret (pc := 18) F r dX0_tell_18 ?_
          exact ⟨rfl, rfl⟩
  | 4, _ =>
      refine g_iload_n (pc := 0) F dX0_tell_0 rfl ?_
      refine g_iconst (pc := 1) (v := 1) F dX0_tell_1 (by decide) ?_
      refine g_icmp_lt (pc := 2) (tgt := 19) F dX0_tell_2 (by decide) (fun c2 => ?_) (fun c2 => ?_)
      · exact absurd c2 (by decide)
      · refine g_iload_n (pc := 5) F dX0_tell_5 rfl ?_
        refine g_iconst (pc := 6) (v := 4) F dX0_tell_6 (by decide) ?_
        refine g_icmp_gt (pc := 7) (tgt := 19) F dX0_tell_7 (by decide) (fun c7 => ?_) (fun c7 => ?_)
        · exact absurd c7 (by decide)
        · refine g_aload_n (pc := 10) F dX0_tell_10 rfl ?_
          refine g_getr (pc := 11) F fl_X0_9 (by assumption) rfl dX0_tell_11 ?_
          refine g_iload_n (pc := 14) F dX0_tell_14 rfl ?_
          refine g_iconst (pc := 15) (v := 1) F dX0_tell_15 (by decide) ?_
          refine g_isub (pc := 16) F dX0_tell_16 ?_
          refine g_iald (pc := 17) (q := 3) F (by assumption) rfl (by decide) (by decide) dX0_tell_17 ?_
          refine g_iret (pc := 18) F r dX0_tell_18 ?_
          exact ⟨rfl, rfl⟩
  | 5, _ =>
      refine g_iload_n (pc := 0) F dX0_tell_0 rfl ?_
      refine g_iconst (pc := 1) (v := 1) F dX0_tell_1 (by decide) ?_
      refine g_icmp_lt (pc := 2) (tgt := 19) F dX0_tell_2 (by decide) (fun c2 => ?_) (fun c2 => ?_)
      · exact absurd c2 (by decide)
      · refine g_iload_n (pc := 5) F dX0_tell_5 rfl ?_
        refine g_iconst (pc := 6) (v := 4) F dX0_tell_6 (by decide) ?_
        refine g_icmp_gt (pc := 7) (tgt := 19) F dX0_tell_7 (by decide) (fun c7 => ?_) (fun c7 => ?_)
        · refine g_iload_n (pc := 19) F dX0_tell_19 rfl ?_
          refine g_tableIn (pc := 20) (tgt := 93) F dX0_tell_20 (by decide) (by decide) (by rfl) (by decide) ?_
          refine g_aload_n (pc := 93) F dX0_tell_93 rfl ?_
          refine g_geti (pc := 94) F fl_X0_32 (by assumption) rfl dX0_tell_94 ?_
          refine g_iret (pc := 97) F r dX0_tell_97 ?_
          exact ⟨rfl, rfl⟩
        · exact absurd (by decide) c7
  | 6, _ =>
      refine g_iload_n (pc := 0) F dX0_tell_0 rfl ?_
      refine g_iconst (pc := 1) (v := 1) F dX0_tell_1 (by decide) ?_
      refine g_icmp_lt (pc := 2) (tgt := 19) F dX0_tell_2 (by decide) (fun c2 => ?_) (fun c2 => ?_)
      · exact absurd c2 (by decide)
      · refine g_iload_n (pc := 5) F dX0_tell_5 rfl ?_
        refine g_iconst (pc := 6) (v := 4) F dX0_tell_6 (by decide) ?_
        refine g_icmp_gt (pc := 7) (tgt := 19) F dX0_tell_7 (by decide) (fun c7 => ?_) (fun c7 => ?_)
        · refine g_iload_n (pc := 19) F dX0_tell_19 rfl ?_
          refine g_tableIn (pc := 20) (tgt := 98) F dX0_tell_20 (by decide) (by decide) (by rfl) (by decide) ?_
          refine g_aload_n (pc := 98) F dX0_tell_98 rfl ?_
          refine g_callV (pc := 99) (rf2 := 0) (rl2 := 0) F cs_X0_70 (by assumption) rfl (by decide) (by rfl) (by rfl) (Nat.le_of_ble_eq_true (by rfl)) (by decide) dX0_tell_99 (c_X0_age _ g _ k hk) (fun v M2 hz => ?_)
          obtain ⟨rfl, h2⟩ := hz
          rw [h2]
          refine g_iret (pc := 102) F r dX0_tell_102 ?_
          exact ⟨rfl, rfl⟩
        · exact absurd (by decide) c7
  | 7, _ =>
      refine g_iload_n (pc := 0) F dX0_tell_0 rfl ?_
      refine g_iconst (pc := 1) (v := 1) F dX0_tell_1 (by decide) ?_
      refine g_icmp_lt (pc := 2) (tgt := 19) F dX0_tell_2 (by decide) (fun c2 => ?_) (fun c2 => ?_)
      · exact absurd c2 (by decide)
      · refine g_iload_n (pc := 5) F dX0_tell_5 rfl ?_
        refine g_iconst (pc := 6) (v := 4) F dX0_tell_6 (by decide) ?_
        refine g_icmp_gt (pc := 7) (tgt := 19) F dX0_tell_7 (by decide) (fun c7 => ?_) (fun c7 => ?_)
        · refine g_iload_n (pc := 19) F dX0_tell_19 rfl ?_
          refine g_tableIn (pc := 20) (tgt := 103) F dX0_tell_20 (by decide) (by decide) (by rfl) (by decide) ?_
          refine g_aload_n (pc := 103) F dX0_tell_103 rfl ?_
          refine g_geti (pc := 104) F fl_X0_35 (by assumption) rfl dX0_tell_104 ?_
          refine g_iret (pc := 107) F r dX0_tell_107 ?_
          exact ⟨rfl, rfl⟩
        · exact absurd (by decide) c7
  | 8, _ =>
      refine g_iload_n (pc := 0) F dX0_tell_0 rfl ?_
      refine g_iconst (pc := 1) (v := 1) F dX0_tell_1 (by decide) ?_
      refine g_icmp_lt (pc := 2) (tgt := 19) F dX0_tell_2 (by decide) (fun c2 => ?_) (fun c2 => ?_)
      · exact absurd c2 (by decide)
      · refine g_iload_n (pc := 5) F dX0_tell_5 rfl ?_
        refine g_iconst (pc := 6) (v := 4) F dX0_tell_6 (by decide) ?_
        refine g_icmp_gt (pc := 7) (tgt := 19) F dX0_tell_7 (by decide) (fun c7 => ?_) (fun c7 => ?_)
        · refine g_iload_n (pc := 19) F dX0_tell_19 rfl ?_
          refine g_tableIn (pc := 20) (tgt := 108) F dX0_tell_20 (by decide) (by decide) (by rfl) (by decide) ?_
          refine g_aload_n (pc := 108) F dX0_tell_108 rfl ?_
          refine g_getr (pc := 109) F fl_X0_18 (by assumption) rfl dX0_tell_109 ?_
          refine g_geti (pc := 112) F fl_X0_67 (by assumption) rfl dX0_tell_112 ?_
          refine g_iret (pc := 115) F r dX0_tell_115 ?_
          exact ⟨rfl, rfl⟩
        · exact absurd (by decide) c7
  | 9, _ =>
      refine g_iload_n (pc := 0) F dX0_tell_0 rfl ?_
      refine g_iconst (pc := 1) (v := 1) F dX0_tell_1 (by decide) ?_
      refine g_icmp_lt (pc := 2) (tgt := 19) F dX0_tell_2 (by decide) (fun c2 => ?_) (fun c2 => ?_)
      · exact absurd c2 (by decide)
      · refine g_iload_n (pc := 5) F dX0_tell_5 rfl ?_
        refine g_iconst (pc := 6) (v := 4) F dX0_tell_6 (by decide) ?_
        refine g_icmp_gt (pc := 7) (tgt := 19) F dX0_tell_7 (by decide) (fun c7 => ?_) (fun c7 => ?_)
        · refine g_iload_n (pc := 19) F dX0_tell_19 rfl ?_
          refine g_tableIn (pc := 20) (tgt := 116) F dX0_tell_20 (by decide) (by decide) (by rfl) (by decide) ?_
          refine g_aload_n (pc := 116) F dX0_tell_116 rfl ?_
          refine g_getr (pc := 117) F fl_X0_18 (by assumption) rfl dX0_tell_117 ?_
          refine g_geti (pc := 120) F fl_X0_74 (by assumption) rfl dX0_tell_120 ?_
          refine g_iret (pc := 123) F r dX0_tell_123 ?_
          exact ⟨rfl, rfl⟩
        · exact absurd (by decide) c7
  | 10, _ =>
      refine g_iload_n (pc := 0) F dX0_tell_0 rfl ?_
      refine g_iconst (pc := 1) (v := 1) F dX0_tell_1 (by decide) ?_
      refine g_icmp_lt (pc := 2) (tgt := 19) F dX0_tell_2 (by decide) (fun c2 => ?_) (fun c2 => ?_)
      · exact absurd c2 (by decide)
      · refine g_iload_n (pc := 5) F dX0_tell_5 rfl ?_
        refine g_iconst (pc := 6) (v := 4) F dX0_tell_6 (by decide) ?_
        refine g_icmp_gt (pc := 7) (tgt := 19) F dX0_tell_7 (by decide) (fun c7 => ?_) (fun c7 => ?_)
        · refine g_iload_n (pc := 19) F dX0_tell_19 rfl ?_
          refine g_tableIn (pc := 20) (tgt := 124) F dX0_tell_20 (by decide) (by decide) (by rfl) (by decide) ?_
          refine g_aload_n (pc := 124) F dX0_tell_124 rfl ?_
          refine g_getr (pc := 125) F fl_X0_18 (by assumption) rfl dX0_tell_125 ?_
          refine g_geti (pc := 128) F fl_X0_67 (by assumption) rfl dX0_tell_128 ?_
          refine g_if_ne (pc := 131) (tgt := 139) F dX0_tell_131 (by decide) (fun c131 => ?_) (fun c131 => ?_)
          · refine g_aload_n (pc := 139) F dX0_tell_139 rfl ?_
            refine g_getr (pc := 140) F fl_X0_18 (by assumption) rfl dX0_tell_140 ?_
            refine g_geti (pc := 143) F fl_X0_78 (by assumption) rfl dX0_tell_143 ?_
            refine g_iret (pc := 146) F r dX0_tell_146 ?_
            refine ⟨?_, rfl⟩
            show some (Value.int _) = some (Value.int (if M (k + 2) 0 = 0 then -1000004 else M (k + 2) 4))
            first | rw [if_neg c131] | rw [if_pos c131]
          · refine g_ldc (pc := 134) F wk_X0_77 dX0_tell_134 ?_
            refine g_goto (pc := 136) (tgt := 146) F dX0_tell_136 (by decide) ?_
            refine g_iret (pc := 146) F r dX0_tell_146 ?_
            refine ⟨?_, rfl⟩
            show some (Value.int _) = some (Value.int (if M (k + 2) 0 = 0 then -1000004 else M (k + 2) 4))
            first | rw [if_neg c131] | rw [if_pos c131]
        · exact absurd (by decide) c7
  | 11, _ =>
      refine g_iload_n (pc := 0) F dX0_tell_0 rfl ?_
      refine g_iconst (pc := 1) (v := 1) F dX0_tell_1 (by decide) ?_
      refine g_icmp_lt (pc := 2) (tgt := 19) F dX0_tell_2 (by decide) (fun c2 => ?_) (fun c2 => ?_)
      · exact absurd c2 (by decide)
      · refine g_iload_n (pc := 5) F dX0_tell_5 rfl ?_
        refine g_iconst (pc := 6) (v := 4) F dX0_tell_6 (by decide) ?_
        refine g_icmp_gt (pc := 7) (tgt := 19) F dX0_tell_7 (by decide) (fun c7 => ?_) (fun c7 => ?_)
        · refine g_iload_n (pc := 19) F dX0_tell_19 rfl ?_
          refine g_tableIn (pc := 20) (tgt := 147) F dX0_tell_20 (by decide) (by decide) (by rfl) (by decide) ?_
          refine g_aload_n (pc := 147) F dX0_tell_147 rfl ?_
          refine g_geti (pc := 148) F fl_X0_38 (by assumption) rfl dX0_tell_148 ?_
          refine g_iret (pc := 151) F r dX0_tell_151 ?_
          exact ⟨rfl, rfl⟩
        · exact absurd (by decide) c7
  | 12, _ =>
      refine g_iload_n (pc := 0) F dX0_tell_0 rfl ?_
      refine g_iconst (pc := 1) (v := 1) F dX0_tell_1 (by decide) ?_
      refine g_icmp_lt (pc := 2) (tgt := 19) F dX0_tell_2 (by decide) (fun c2 => ?_) (fun c2 => ?_)
      · exact absurd c2 (by decide)
      · refine g_iload_n (pc := 5) F dX0_tell_5 rfl ?_
        refine g_iconst (pc := 6) (v := 4) F dX0_tell_6 (by decide) ?_
        refine g_icmp_gt (pc := 7) (tgt := 19) F dX0_tell_7 (by decide) (fun c7 => ?_) (fun c7 => ?_)
        · refine g_iload_n (pc := 19) F dX0_tell_19 rfl ?_
          refine g_tableIn (pc := 20) (tgt := 152) F dX0_tell_20 (by decide) (by decide) (by rfl) (by decide) ?_
          refine g_aload_n (pc := 152) F dX0_tell_152 rfl ?_
          refine g_geti (pc := 153) F fl_X0_41 (by assumption) rfl dX0_tell_153 ?_
          refine g_iret (pc := 156) F r dX0_tell_156 ?_
          exact ⟨rfl, rfl⟩
        · exact absurd (by decide) c7
  | 13, _ =>
      refine g_iload_n (pc := 0) F dX0_tell_0 rfl ?_
      refine g_iconst (pc := 1) (v := 1) F dX0_tell_1 (by decide) ?_
      refine g_icmp_lt (pc := 2) (tgt := 19) F dX0_tell_2 (by decide) (fun c2 => ?_) (fun c2 => ?_)
      · exact absurd c2 (by decide)
      · refine g_iload_n (pc := 5) F dX0_tell_5 rfl ?_
        refine g_iconst (pc := 6) (v := 4) F dX0_tell_6 (by decide) ?_
        refine g_icmp_gt (pc := 7) (tgt := 19) F dX0_tell_7 (by decide) (fun c7 => ?_) (fun c7 => ?_)
        · refine g_iload_n (pc := 19) F dX0_tell_19 rfl ?_
          refine g_tableOut (pc := 20) (tgt := 157) F dX0_tell_20 (by decide) (by decide) ?_
          refine g_aload_n (pc := 157) F dX0_tell_157 rfl ?_
          refine g_geti (pc := 158) F fl_X0_44 (by assumption) rfl dX0_tell_158 ?_
          refine g_iret (pc := 161) F r dX0_tell_161 ?_
          exact ⟨rfl, rfl⟩
        · exact absurd (by decide) c7
