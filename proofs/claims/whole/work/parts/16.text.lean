/-! the text, and its orders -/
/-- the text's cells: tn signs, tx -/
def TR (M : Mem) (tx : Nat → Int32) (tn : Nat) : Prop := tn ≤ 60 ∧ M 220 1 = nI tn ∧ ∀ j, j < tn → M 221 j = tx j
/-- every sign is 32 to 126 -/
def TI (tx : Nat → Int32) (tn : Nat) : Prop := ∀ j, j < tn → ∃ c, tx j = nI c ∧ 32 ≤ c ∧ c ≤ 126
def sgn (tx : Nat → Int32) (tn k : Nat) : Int32 := if k < tn then tx k else 0
theorem sgn_nI {tx : Nat → Int32} {tn : Nat} (h : TI tx tn) (k : Nat) : ∃ c, sgn tx tn k = nI c ∧ c ≤ 126 := by
  unfold sgn
  split
  · next hk =>
    obtain ⟨c, h1, -, h2⟩ := h k hk
    exact ⟨c, h1, h2⟩
  · exact ⟨0, nI0, by decide⟩
theorem nar_char : ∀ c, c < 127 → narrow .char (.int (nI c)) = .int (nI c) := by decide +kernel
theorem TR.row {M M2 : Mem} {tx : Nat → Int32} {tn : Nat} (h : TR M tx tn) (e0 : M2 220 = M 220) (e1 : M2 221 = M 221) : TR M2 tx tn := ⟨h.1, by rw [e0]; exact h.2.1, fun j hj => by rw [e1]; exact h.2.2 j hj⟩
abbrev digP (c : Int32) : Prop := 48 ≤ c ∧ c ≤ 57
def dgs (s : Nat → Int32) (p : Nat) : Nat := if digP (s p) then (if digP (s (p + 1)) then (if digP (s (p + 2)) then 3 else 2) else 1) else 0
def nv (s : Nat → Int32) (p : Nat) : Nat → Int32
  | 0 => 0
  | d + 1 => nv s p d * 10 + (s (p + d) - 48)
theorem dgs_eq {s : Nat → Int32} {p j : Nat} (hj : j ≤ 3) (h1 : ∀ i, i < j → digP (s (p + i))) (h2 : j = 3 ∨ ¬ digP (s (p + j))) : dgs s p = j := by
  unfold dgs
  match j, hj with
  | 0, _ =>
    have a0 : ¬ digP (s p) := h2.elim (fun e => absurd e (by decide)) id
    rw [if_neg a0]
  | 1, _ =>
    have a0 : digP (s p) := h1 0 (by decide)
    have a1 : ¬ digP (s (p + 1)) := h2.elim (fun e => absurd e (by decide)) id
    rw [if_pos a0, if_neg a1]
  | 2, _ =>
    have a0 : digP (s p) := h1 0 (by decide)
    have a1 : digP (s (p + 1)) := h1 1 (by decide)
    have a2 : ¬ digP (s (p + 2)) := h2.elim (fun e => absurd e (by decide)) id
    rw [if_pos a0, if_pos a1, if_neg a2]
  | 3, _ =>
    have a0 : digP (s p) := h1 0 (by decide)
    have a1 : digP (s (p + 1)) := h1 1 (by decide)
    have a2 : digP (s (p + 2)) := h1 2 (by decide)
    rw [if_pos a0, if_pos a1, if_pos a2]
theorem dgs_le (s : Nat → Int32) (p : Nat) : dgs s p ≤ 3 := by
  unfold dgs
  repeat' split
  all_goals omega
theorem dgs_dig {s : Nat → Int32} {p : Nat} : ∀ i, i < dgs s p → digP (s (p + i)) := by
  intro i hi
  unfold dgs at hi
  by_cases a : digP (s p)
  · rw [if_pos a] at hi
    by_cases b : digP (s (p + 1))
    · rw [if_pos b] at hi
      by_cases c : digP (s (p + 2))
      · rw [if_pos c] at hi
        match i, hi with
        | 0, _ => exact a
        | 1, _ => exact b
        | 2, _ => exact c
      · rw [if_neg c] at hi
        match i, hi with
        | 0, _ => exact a
        | 1, _ => exact b
    · rw [if_neg b] at hi
      match i, hi with
      | 0, _ => exact a
  · rw [if_neg a] at hi
    exact absurd hi (Nat.not_lt_zero i)
theorem sgn_dig {tx : Nat → Int32} {tn k : Nat} (h : digP (sgn tx tn k)) : k < tn := by
  by_cases hk : k < tn
  · exact hk
  · unfold sgn at h
    rw [if_neg hk] at h
    exact absurd h.1 (by decide)
theorem dgs_in {tx : Nat → Int32} {tn p : Nat} (hp : p ≤ tn) : p + dgs (sgn tx tn) p ≤ tn := by
  rcases Nat.eq_zero_or_pos (dgs (sgn tx tn) p) with h | h
  · omega
  · have := sgn_dig (dgs_dig (s := sgn tx tn) (p := p) (dgs (sgn tx tn) p - 1) (by omega))
    omega
/-- how many numbers stand behind a letter -/
def wants (c : Int32) : Nat := if c = 99 then 5 else if c = 106 then 2 else if c = 112 then 1 else if c = 116 then 1 else if c = 119 then 1 else 0
theorem kd220 : kd 220 = 6 := by decide
theorem kd221 : kd 221 = 14 := by decide
theorem kd222 : kd 222 = 5 := by decide
theorem kd223 : kd 223 = 10 := by decide
set_option maxHeartbeats 4000000 in
set_option maxRecDepth 100000 in
theorem c_X6_signAt (l : Launch) (g : Gm) (M : Mem) (tx : Nat → Int32) (tn : Nat) (hT : TR M tx tn) (hI : TI tx tn) (k : Nat) (hk0 : k < 1000) : Cn l yX6_signAt cX6_signAt 2 (some .char) 0 0 g [.ref (ad g 220), .int (nI k)] M (fun v M2 => v = some (.int (sgn tx tn k)) ∧ M2 = M) := by
  refine Cn.intro (lv0 := [some (.ref (ad g 220)), some (.int (nI k))]) 0 (by decide +kernel) (Nat.le_of_ble_eq_true rfl) rfl (fun X F r => ?_)
  have k220 := kd220
  have k221 := kd221
  have k222 := kd222
  have k223 := kd223
  refine g_iload_n (pc := 0) F dX6_signAt_0 rfl ?_
  refine g_if_lt (pc := 1) (tgt := 30) F dX6_signAt_1 (by decide) (fun c1 => ?_) (fun c1 => ?_)
  · exact absurd c1 (nI_pos (by omega))
  · refine g_iload_n (pc := 4) F dX6_signAt_4 rfl ?_
    refine g_aload_n (pc := 5) F dX6_signAt_5 rfl ?_
    refine g_geti (pc := 6) F fl_X6_15 (by assumption) rfl dX6_signAt_6 ?_
    refine g_icmp_ge (pc := 9) (tgt := 30) F dX6_signAt_9 (by decide) (fun c9 => ?_) (fun c9 => ?_)
    · rw [hT.2.1] at c9
      have hk : ¬ k < tn := fun e => nI_ge e (by have := hT.1; omega) c9
      refine g_iconst (pc := 30) (v := 0) F dX6_signAt_30 (by decide) ?_
      have e : sgn tx tn k = 0 := if_neg hk
      exact g_zret (pc := 31) F (by decide) r dX6_signAt_31 ⟨by rw [e], rfl⟩
    · rw [hT.2.1] at c9
      have hk : k < tn := (nI_ltI (by omega) (by have := hT.1; omega)).mp (Int32.not_le.mp c9)
      refine g_iload_n (pc := 12) F dX6_signAt_12 rfl ?_
      refine g_aload_n (pc := 13) F dX6_signAt_13 rfl ?_
      refine g_getr (pc := 14) F fl_X6_9 (by assumption) rfl dX6_signAt_14 ?_
      refine g_alenC (pc := 17) F (by assumption) (v := 60) (by decide) dX6_signAt_17 ?_
      refine g_icmp_ge (pc := 18) (tgt := 30) F dX6_signAt_18 (by decide) (fun c18 => ?_) (fun c18 => ?_)
      · exact absurd c18 (nI_ge (a := k) (b := 60) (by have := hT.1; omega) (by decide))
      · refine g_aload_n (pc := 21) F dX6_signAt_21 rfl ?_
        refine g_getr (pc := 22) F fl_X6_9 (by assumption) rfl dX6_signAt_22 ?_
        refine g_iload_n (pc := 25) F dX6_signAt_25 rfl ?_
        refine g_cald (pc := 26) (q := k) F k221 rfl (by have := hT.1; omega) dX6_signAt_26 ?_
        refine g_goto (pc := 27) (tgt := 31) F dX6_signAt_27 (by decide) ?_
        have e : sgn tx tn k = M 221 k := (if_pos hk).trans (hT.2.2 k hk).symm
        obtain ⟨cc, e1, e2⟩ := sgn_nI hI k
        rw [e] at e1
        exact g_zret (pc := 31) F (by rw [e1]; exact nar_char cc (by omega)) r dX6_signAt_31 ⟨by rw [e], rfl⟩

set_option maxHeartbeats 4000000 in
set_option maxRecDepth 100000 in
theorem c_X5_isDigit (l : Launch) (g : Gm) (M : Mem) (x : Int32) : Cn l yX5_isDigit cX5_isDigit 1 (some .boolean) 0 0 g [.int x] M (fun v M2 => v = some (.int (cb (digP x))) ∧ M2 = M) := by
  refine Cn.intro (lv0 := [some (.int x)]) 0 (by decide +kernel) (Nat.le_of_ble_eq_true rfl) rfl (fun X F r => ?_)
  refine g_iload_n (pc := 0) F dX5_isDigit_0 rfl ?_
  refine g_bipush (pc := 1) (v := 48) F dX5_isDigit_1 (by decide) ?_
  refine g_icmp_lt (pc := 3) (tgt := 16) F dX5_isDigit_3 (by decide) (fun c3 => ?_) (fun c3 => ?_)
  · refine g_iconst (pc := 16) (v := 0) F dX5_isDigit_16 (by decide) ?_
    refine g_zret (pc := 17) F (by decide) r dX5_isDigit_17 ?_
    exact ⟨congrArg (fun z => some (Value.int z)) (cb_f (fun e => Int32.not_lt.mpr e.1 c3)).symm, rfl⟩
  · refine g_iload_n (pc := 6) F dX5_isDigit_6 rfl ?_
    refine g_bipush (pc := 7) (v := 57) F dX5_isDigit_7 (by decide) ?_
    refine g_icmp_gt (pc := 9) (tgt := 16) F dX5_isDigit_9 (by decide) (fun c9 => ?_) (fun c9 => ?_)
    · refine g_iconst (pc := 16) (v := 0) F dX5_isDigit_16 (by decide) ?_
      refine g_zret (pc := 17) F (by decide) r dX5_isDigit_17 ?_
      exact ⟨congrArg (fun z => some (Value.int z)) (cb_f (fun e => Int32.not_lt.mpr e.2 c9)).symm, rfl⟩
    · refine g_iconst (pc := 12) (v := 1) F dX5_isDigit_12 (by decide) ?_
      refine g_goto (pc := 13) (tgt := 17) F dX5_isDigit_13 (by decide) ?_
      refine g_zret (pc := 17) F (by decide) r dX5_isDigit_17 ?_
      exact ⟨congrArg (fun z => some (Value.int z)) (cb_t ⟨Int32.not_lt.mp c3, Int32.not_lt.mp c9⟩).symm, rfl⟩

/-- a switch over whole numbers, by what the number is -/
theorem osw_hit {x k : Int32} {a o d : Int} {r : List (Int × Int)} (h : x = k) (hk : k.toInt = a) : Op.lookupswitch.offset ((a, o) :: r) d x.toInt = o := by
  rw [Op.lookupswitch.offset_cons, if_pos]
  rw [h, hk]
set_option maxHeartbeats 4000000 in
set_option maxRecDepth 100000 in
theorem c_X5_numbersBehind (l : Launch) (g : Gm) (M : Mem) (x : Int32) : Cn l yX5_numbersBehind cX5_numbersBehind 1 (some .int) 0 0 g [.int x] M (fun v M2 => v = some (.int (nI (wants x))) ∧ M2 = M) := by
  refine Cn.intro (lv0 := [some (.int x)]) 0 (by decide +kernel) (Nat.le_of_ble_eq_true rfl) rfl (fun X F r => ?_)
  refine g_iload_n (pc := 0) F dX5_numbersBehind_0 rfl ?_
  by_cases n99 : x = 99
  · refine g_lookup (pc := 1) (off := 51) (tgt := 52) F dX5_numbersBehind_1 (by decide) (by exact osw_hit n99 rfl) (by decide) ?_
    refine g_iconst (pc := 52) (v := 5) F dX5_numbersBehind_52 (by decide) ?_
    refine g_iret (pc := 53) F r dX5_numbersBehind_53 ?_
    refine ⟨?_, rfl⟩
    unfold wants
    rw [if_pos n99]
    rfl
  by_cases n106 : x = 106
  · refine g_lookup (pc := 1) (off := 53) (tgt := 54) F dX5_numbersBehind_1 (by decide) (by exact (lv_osw n99 rfl).trans (osw_hit n106 rfl)) (by decide) ?_
    refine g_iconst (pc := 54) (v := 2) F dX5_numbersBehind_54 (by decide) ?_
    refine g_iret (pc := 55) F r dX5_numbersBehind_55 ?_
    refine ⟨?_, rfl⟩
    unfold wants
    rw [if_neg n99, if_pos n106]
    rfl
  by_cases n112 : x = 112
  · refine g_lookup (pc := 1) (off := 55) (tgt := 56) F dX5_numbersBehind_1 (by decide) (by exact (lv_osw n99 rfl).trans ((lv_osw n106 rfl).trans (osw_hit n112 rfl))) (by decide) ?_
    refine g_iconst (pc := 56) (v := 1) F dX5_numbersBehind_56 (by decide) ?_
    refine g_iret (pc := 57) F r dX5_numbersBehind_57 ?_
    refine ⟨?_, rfl⟩
    unfold wants
    rw [if_neg n99, if_neg n106, if_pos n112]
    rfl
  by_cases n116 : x = 116
  · refine g_lookup (pc := 1) (off := 55) (tgt := 56) F dX5_numbersBehind_1 (by decide) (by exact (lv_osw n99 rfl).trans ((lv_osw n106 rfl).trans ((lv_osw n112 rfl).trans (osw_hit n116 rfl)))) (by decide) ?_
    refine g_iconst (pc := 56) (v := 1) F dX5_numbersBehind_56 (by decide) ?_
    refine g_iret (pc := 57) F r dX5_numbersBehind_57 ?_
    refine ⟨?_, rfl⟩
    unfold wants
    rw [if_neg n99, if_neg n106, if_neg n112, if_pos n116]
    rfl
  by_cases n119 : x = 119
  · refine g_lookup (pc := 1) (off := 55) (tgt := 56) F dX5_numbersBehind_1 (by decide) (by exact (lv_osw n99 rfl).trans ((lv_osw n106 rfl).trans ((lv_osw n112 rfl).trans ((lv_osw n116 rfl).trans (osw_hit n119 rfl))))) (by decide) ?_
    refine g_iconst (pc := 56) (v := 1) F dX5_numbersBehind_56 (by decide) ?_
    refine g_iret (pc := 57) F r dX5_numbersBehind_57 ?_
    refine ⟨?_, rfl⟩
    unfold wants
    rw [if_neg n99, if_neg n106, if_neg n112, if_neg n116, if_pos n119]
    rfl
  refine g_lookup (pc := 1) (off := 57) (tgt := 58) F dX5_numbersBehind_1 (by decide) (by exact (lv_osw n99 rfl).trans ((lv_osw n106 rfl).trans ((lv_osw n112 rfl).trans ((lv_osw n116 rfl).trans ((lv_osw n119 rfl).trans (rfl)))))) (by decide) ?_
  refine g_iconst (pc := 58) (v := 0) F dX5_numbersBehind_58 (by decide) ?_
  refine g_iret (pc := 59) F r dX5_numbersBehind_59 ?_
  refine ⟨?_, rfl⟩
  unfold wants
  rw [if_neg n99, if_neg n106, if_neg n112, if_neg n116, if_neg n119]
  rfl

set_option maxHeartbeats 4000000 in
set_option maxRecDepth 100000 in
theorem c_X5_readNumber (l : Launch) (g : Gm) (M : Mem) (tx : Nat → Int32) (tn : Nat) (hT : TR M tx tn) (hI : TI tx tn) (p ix : Nat) (hp : M 222 3 = nI p) (hpn : p ≤ tn) (hix : ix < 5) : Cn l yX5_readNumber cX5_readNumber 4 (some .boolean) 1 21 g [.ref (ad g 222), .int (nI ix)] M (fun v M2 => v = some (.int (if dgs (sgn tx tn) p = 0 then 0 else 1)) ∧ (∀ a, a ≠ 222 → a ≠ 223 → M2 a = M a) ∧ M2 222 = upd (M 222) 3 (nI (p + dgs (sgn tx tn) p)) ∧ M2 223 = (if dgs (sgn tx tn) p = 0 then M 223 else upd (M 223) ix (nv (sgn tx tn) p (dgs (sgn tx tn) p)))) := by
  refine Cn.intro (lv0 := [some (.ref (ad g 222)), some (.int (nI ix)), none, none]) 2 (by decide +kernel) (Nat.le_of_ble_eq_true rfl) rfl (fun X F r => ?_)
  have htn60 := hT.1
  have k220 := kd220
  have k221 := kd221
  have k222 := kd222
  have k223 := kd223
  have E : ∀ (j : Nat) (y : Int32) (M1 : Mem), j ≤ 3 → y = nI j → dgs (sgn tx tn) p = j → (∀ a, a ≠ 222 → M1 a = M a) → M1 222 = upd (M 222) 3 (nI (p + j)) → G X g 4 M1 62 [some (.ref (ad g 222)), some (.int (nI ix)), some (.int (nv (sgn tx tn) p j)), some (.int y)] [] := by
    intro j y M1 hj hy hd hf1 h22
    refine g_iload_n (pc := 62) F dX5_readNumber_62 rfl ?_
    refine g_if_eq (pc := 63) (tgt := 79) F dX5_readNumber_63 (by decide) (fun c63 => ?_) (fun c63 => ?_)
    · obtain rfl : j = 0 := by
        rw [hy, nI0, nI_inj (by omega) (by decide)] at c63
        exact c63
      refine g_iconst (pc := 79) (v := 0) F dX5_readNumber_79 (by decide) ?_
      refine g_zret (pc := 80) F (by decide) r dX5_readNumber_80 ?_
      rw [hd]
      exact ⟨by rw [if_pos rfl], fun a ha1 ha2 => hf1 a ha1, h22, by rw [if_pos rfl]; exact hf1 223 (by decide)⟩
    · have hj0 : ¬ j = 0 := fun e => c63 (by rw [hy, e]; rfl)
      refine g_iload_n (pc := 66) F dX5_readNumber_66 rfl ?_
      refine g_if_lt (pc := 67) (tgt := 79) F dX5_readNumber_67 (by decide) (fun c67 => ?_) (fun c67 => ?_)
      · exact absurd c67 (nI_pos (by omega))
      · refine g_iload_n (pc := 70) F dX5_readNumber_70 rfl ?_
        refine g_aload_n (pc := 71) F dX5_readNumber_71 rfl ?_
        refine g_getr (pc := 72) F fl_X5_9 (by assumption) rfl dX5_readNumber_72 ?_
        refine g_alen (pc := 75) F (by assumption) rfl (v := 5) (by decide) dX5_readNumber_75 ?_
        refine g_icmp_lt (pc := 76) (tgt := 81) F dX5_readNumber_76 (by decide) (fun c76 => ?_) (fun c76 => ?_)
        · refine g_aload_n (pc := 81) F dX5_readNumber_81 rfl ?_
          refine g_getr (pc := 82) F fl_X5_9 (by assumption) rfl dX5_readNumber_82 ?_
          refine g_iload_n (pc := 85) F dX5_readNumber_85 rfl ?_
          refine g_iload_n (pc := 86) F dX5_readNumber_86 rfl ?_
          refine g_iast (pc := 87) (q := ix) F k223 rfl rfl hix dX5_readNumber_87 ?_
          refine g_iconst (pc := 88) (v := 1) F dX5_readNumber_88 (by decide) ?_
          refine g_zret (pc := 89) F (by decide) r dX5_readNumber_89 ?_
          rw [hd]
          refine ⟨by rw [if_neg hj0], fun a ha1 ha2 => (upd2_k _ _ _ ha2).trans (hf1 a ha1), ?_, ?_⟩
          · rw [upd2_k _ _ _ (by decide)]; exact h22
          · rw [if_neg hj0, upd2_row, hf1 223 (by decide)]
        · exact absurd (nI_lt (a := ix) (b := 5) hix (by decide)) c76
  have L : ∀ (n j : Nat) (y : Int32) (M1 : Mem), j + n = 3 → y = nI j → (∀ i, i < j → digP (sgn tx tn (p + i))) → (∀ a, a ≠ 222 → M1 a = M a) → M1 222 = upd (M 222) 3 (nI (p + j)) → G X g 4 M1 4 [some (.ref (ad g 222)), some (.int (nI ix)), some (.int (nv (sgn tx tn) p j)), some (.int y)] [] := by
    intro n
    induction n with
    | zero =>
      intro j y M1 hj hy hd hf1 h22
      refine g_iload_n (pc := 4) F dX5_readNumber_4 rfl ?_
      refine g_iconst (pc := 5) (v := 3) F dX5_readNumber_5 (by decide) ?_
      refine g_icmp_ge (pc := 6) (tgt := 62) F dX5_readNumber_6 (by decide) (fun c6 => ?_) (fun c6 => ?_)
      · exact E j y M1 (by omega) hy (dgs_eq (by omega) hd (Or.inl (by omega))) hf1 h22
      · exact absurd (by rw [hy]; exact nI_le (a := 3) (b := j) (by omega) (by omega)) c6
    | succ n ih =>
      intro j y M1 hj hy hd hf1 h22
      refine g_iload_n (pc := 4) F dX5_readNumber_4 rfl ?_
      refine g_iconst (pc := 5) (v := 3) F dX5_readNumber_5 (by decide) ?_
      refine g_icmp_ge (pc := 6) (tgt := 62) F dX5_readNumber_6 (by decide) (fun c6 => ?_) (fun c6 => ?_)
      · exact absurd c6 (by rw [hy]; exact nI_ge (a := j) (b := 3) (by omega) (by decide))
      · refine g_aload_n (pc := 9) F dX5_readNumber_9 rfl ?_
        refine g_getr (pc := 10) F fl_X5_15 (by assumption) rfl dX5_readNumber_10 ?_
        refine g_aload_n (pc := 13) F dX5_readNumber_13 rfl ?_
        refine g_geti (pc := 14) F fl_X5_25 (by assumption) rfl dX5_readNumber_14 ?_
        refine g_stk (st' := [.int (nI (p + j)), .ref (ad g 220)]) (by rw [h22, upd_self] <;> rfl) ?_
        refine g_callV (pc := 17) (rf2 := 0) (rl2 := 0) F cs_X5_58 k220 rfl (by decide) (by rfl) (by rfl) (Nat.le_of_ble_eq_true (by rfl)) (by decide) dX5_readNumber_17 (c_X6_signAt _ g _ tx tn (hT.row (hf1 220 (by decide)) (hf1 221 (by decide))) hI (p + j) (by omega)) (fun v M2 hz => ?_)
        obtain ⟨rfl, h3⟩ := hz
        rw [h3]
        refine g_callS (pc := 20) (rf2 := 0) (rl2 := 0) F cs_X5_70 (by rfl) (by rfl) (Nat.le_of_ble_eq_true (by rfl)) (by decide) dX5_readNumber_20 (c_X5_isDigit _ g _ _) (fun v M2 hz => ?_)
        obtain ⟨rfl, h4⟩ := hz
        rw [h4]
        refine g_if_eq (pc := 23) (tgt := 62) F dX5_readNumber_23 (by decide) (fun c23 => ?_) (fun c23 => ?_)
        · have hnd := cb_0 c23
          exact E j y M1 (by omega) hy (dgs_eq (by omega) hd (Or.inr hnd)) hf1 h22
        · have hdg := cb_1 c23
          have hlt := sgn_dig hdg
          have htn := hT.1
          refine g_iload_n (pc := 26) F dX5_readNumber_26 rfl ?_
          refine g_bipush (pc := 27) (v := 10) F dX5_readNumber_27 (by decide) ?_
          refine g_imul (pc := 29) F dX5_readNumber_29 ?_
          refine g_aload_n (pc := 30) F dX5_readNumber_30 rfl ?_
          refine g_getr (pc := 31) F fl_X5_15 (by assumption) rfl dX5_readNumber_31 ?_
          refine g_aload_n (pc := 34) F dX5_readNumber_34 rfl ?_
          refine g_geti (pc := 35) F fl_X5_25 (by assumption) rfl dX5_readNumber_35 ?_
          refine g_stk (st' := [.int (nI (p + j)), .ref (ad g 220), .int (nv (sgn tx tn) p j * 10)]) (by rw [h22, upd_self] <;> rfl) ?_
          refine g_callV (pc := 38) (rf2 := 0) (rl2 := 0) F cs_X5_58 k220 rfl (by decide) (by rfl) (by rfl) (Nat.le_of_ble_eq_true (by rfl)) (by decide) dX5_readNumber_38 (c_X6_signAt _ g _ tx tn (hT.row (hf1 220 (by decide)) (hf1 221 (by decide))) hI (p + j) (by omega)) (fun v M2 hz => ?_)
          obtain ⟨rfl, h3⟩ := hz
          rw [h3]
          refine g_bipush (pc := 41) (v := 48) F dX5_readNumber_41 (by decide) ?_
          refine g_isub (pc := 43) F dX5_readNumber_43 ?_
          refine g_iadd (pc := 44) F dX5_readNumber_44 ?_
          refine g_istore_n (pc := 45) F dX5_readNumber_45 (by decide) rfl ?_
          refine g_aload_n (pc := 46) F dX5_readNumber_46 rfl ?_
          refine g_dup (pc := 47) F dX5_readNumber_47 rfl ?_
          refine g_geti (pc := 48) F fl_X5_25 (by assumption) rfl dX5_readNumber_48 ?_
          refine g_iconst (pc := 51) (v := 1) F dX5_readNumber_51 (by decide) ?_
          refine g_iadd (pc := 52) F dX5_readNumber_52 ?_
          refine g_puti (pc := 53) F fl_X5_25 rfl rfl (by assumption) rfl dX5_readNumber_53 ?_
          refine g_iinc (pc := 56) F dX5_readNumber_56 rfl rfl (by decide) rfl ?_
          refine g_goto (pc := 59) (tgt := 4) F dX5_readNumber_59 (by decide) ?_
          refine G.sub [some (.ref (ad g 222)), some (.int (nI ix)), some (.int (nv (sgn tx tn) p (j + 1))), some (.int (y + Int32.ofInt 1))] ⟨rfl, rfl, rfl, rfl, trivial⟩ (ih (j + 1) _ _ (by omega) (by rw [hy]; exact nI_1 j) ?_ ?_ ?_)
          · intro i hi
            by_cases hij : i = j
            · rw [hij]; exact hdg
            · exact hd i (by omega)
          · intro a ha; exact (upd2_k _ _ _ ha).trans (hf1 a ha)
          · rw [upd2_row, h22, upd_self, nI_1]
            funext z
            unfold upd
            split
            · rfl
            · rfl
  refine g_iconst (pc := 0) (v := 0) F dX5_readNumber_0 (by decide) ?_
  refine g_istore_n (pc := 1) F dX5_readNumber_1 (by decide) rfl ?_
  refine g_iconst (pc := 2) (v := 0) F dX5_readNumber_2 (by decide) ?_
  refine g_istore_n (pc := 3) F dX5_readNumber_3 (by decide) rfl ?_
  refine L 3 0 0 M (by omega) nI_0.symm (fun i hi => absurd hi (Nat.not_lt_zero i)) (fun _ _ => rfl) ?_
  funext z
  unfold upd
  split
  · next e => rw [e]; exact hp
  · rfl

