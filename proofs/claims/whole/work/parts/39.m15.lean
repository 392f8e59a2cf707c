/-! the check: the signs of the text -/
theorem eq_rng {c x : Int32} : (c ≤ x ∧ x ≤ c) ↔ x = c := ⟨fun h => Int32.le_antisymm h.2 h.1, fun h => by rw [h]; exact ⟨Int32.le_refl _, Int32.le_refl _⟩⟩
theorem nar_b2i (P : Prop) [Decidable P] : narrow .boolean (.int (b2i P)) = .int (b2i P) := by
  unfold b2i
  by_cases h : P
  · rw [if_pos h]
    decide
  · rw [if_neg h]
    decide
theorem sgn_lt {tx : Nat → Int32} {tn p : Nat} (h : p < tn) : sgn tx tn p = tx p := if_pos h
set_option maxHeartbeats 4000000 in
set_option maxRecDepth 100000 in
theorem c_X8_isAt (l : Launch) (g : Gm) (M : Mem) (tn : Nat) (htn6 : tn ≤ 60) (htn : M 224 7 = nI tn) (p : Nat) (hp : p < 1000) (hsp : M 224 8 = nI p) (a b : Int32) (ha : 0 < a) : Cn l yX8_isAt cX8_isAt 3 (some .boolean) 1 22 g [.ref (ad g 224), .int a, .int b] M (fun v M2 => v = some (.int (b2i (a ≤ sgn (M 229) tn p ∧ sgn (M 229) tn p ≤ b))) ∧ M2 = M) := by
  refine Cn.intro (lv0 := [some (.ref (ad g 224)), some (.int a), some (.int b)]) 0 (by decide +kernel) (Nat.le_of_ble_eq_true rfl) rfl (fun X F r => ?_)
  have k224 := kd224
  have k225 := kd225
  have k229 := kd229
  have k230 := kd230
  refine g_aload_n (pc := 0) F dX8_isAt_0 rfl ?_
  refine g_geti (pc := 1) F fl_X8_151 (by assumption) rfl dX8_isAt_1 ?_
  refine g_aload_n (pc := 4) F dX8_isAt_4 rfl ?_
  refine g_geti (pc := 5) F fl_X8_148 (by assumption) rfl dX8_isAt_5 ?_
  refine g_icmp_ge (pc := 8) (tgt := 32) F dX8_isAt_8 (by decide) (fun c8 => ?_) (fun c8 => ?_)
  · refine g_iconst (pc := 32) (v := 0) F dX8_isAt_32 (by decide) ?_
    refine g_zret (pc := 33) F (by decide) r dX8_isAt_33 ?_
    have e : b2i (a ≤ sgn (M 229) tn p ∧ sgn (M 229) tn p ≤ b) = 0 := if_neg (fun q => by
      rw [sgn_out (fun e => by rw [hsp, htn] at c8; exact nI_ge e (by omega) c8)] at q
      exact Int32.not_lt.mpr q.1 ha)
    exact ⟨by rw [e], rfl⟩
  · have hl : p < tn := by
      rw [hsp, htn, nI_leI (by omega) (by omega)] at c8
      omega
    refine g_aload_n (pc := 11) F dX8_isAt_11 rfl ?_
    refine g_getr (pc := 12) F fl_X8_22 (by assumption) rfl dX8_isAt_12 ?_
    refine g_aload_n (pc := 15) F dX8_isAt_15 rfl ?_
    refine g_geti (pc := 16) F fl_X8_151 (by assumption) rfl dX8_isAt_16 ?_
    refine g_iald (pc := 19) (q := p) F k229 rfl hsp (by omega) dX8_isAt_19 ?_
    refine g_iload_n (pc := 20) F dX8_isAt_20 rfl ?_
    refine g_iload_n (pc := 21) F dX8_isAt_21 rfl ?_
    refine g_callS (pc := 22) (rf2 := 0) (rl2 := 0) F cs_X8_80 (by rfl) (by rfl) (Nat.le_of_ble_eq_true (by rfl)) (by decide) dX8_isAt_22 (c_X8_in _ g _ (M 229 p) a b) (fun v M2 hz => ?_)
    obtain ⟨rfl, h2⟩ := hz
    rw [h2]
    refine g_if_eq (pc := 25) (tgt := 32) F dX8_isAt_25 (by decide) (fun c25 => ?_) (fun c25 => ?_)
    · refine g_iconst (pc := 32) (v := 0) F dX8_isAt_32 (by decide) ?_
      refine g_zret (pc := 33) F (by decide) r dX8_isAt_33 ?_
      have e : b2i (a ≤ sgn (M 229) tn p ∧ sgn (M 229) tn p ≤ b) = 0 := if_neg (fun q => b2i_0 c25 (by rw [sgn_lt hl] at q; exact q))
      exact ⟨by rw [e], rfl⟩
    · refine g_iconst (pc := 28) (v := 1) F dX8_isAt_28 (by decide) ?_
      refine g_goto (pc := 29) (tgt := 33) F dX8_isAt_29 (by decide) ?_
      refine g_zret (pc := 33) F (by decide) r dX8_isAt_33 ?_
      have e : b2i (a ≤ sgn (M 229) tn p ∧ sgn (M 229) tn p ≤ b) = 1 := if_pos (by rw [sgn_lt hl]; exact b2i_1 c25)
      exact ⟨by rw [e], rfl⟩

set_option maxHeartbeats 4000000 in
set_option maxRecDepth 100000 in
theorem c_X8_sign (l : Launch) (g : Gm) (M : Mem) (tn : Nat) (htn6 : tn ≤ 60) (htn : M 224 7 = nI tn) (p : Nat) (hp : p < 1000) (hsp : M 224 8 = nI p) (c : Int32) (hc : 0 < c) : Cn l yX8_sign cX8_sign 3 (some .boolean) 2 44 g [.ref (ad g 224), .int c] M (fun v M2 => v = some (.int (b2i (sgn (M 229) tn p = c))) ∧ M2 = upd2 M 224 8 (nI (p + (if sgn (M 229) tn p = c then 1 else 0)))) := by
  refine Cn.intro (lv0 := [some (.ref (ad g 224)), some (.int c), none]) 1 (by decide +kernel) (Nat.le_of_ble_eq_true rfl) rfl (fun X F r => ?_)
  have k224 := kd224
  have k225 := kd225
  have k229 := kd229
  have k230 := kd230
  refine g_aload_n (pc := 0) F dX8_sign_0 rfl ?_
  refine g_iload_n (pc := 1) F dX8_sign_1 rfl ?_
  refine g_iload_n (pc := 2) F dX8_sign_2 rfl ?_
  refine g_callV (pc := 3) (rf2 := 1) (rl2 := 22) F cs_X8_154 k224 rfl (by decide) (by rfl) (by rfl) (Nat.le_of_ble_eq_true (by rfl)) (by decide) dX8_sign_3 (c_X8_isAt _ g _ tn htn6 htn p hp hsp c c hc) (fun v M2 hz => ?_)
  obtain ⟨rfl, h2⟩ := hz
  rw [h2]
  refine g_istore_n (pc := 6) F dX8_sign_6 (by decide) rfl ?_
  refine g_aload_n (pc := 7) F dX8_sign_7 rfl ?_
  refine g_dup (pc := 8) F dX8_sign_8 rfl ?_
  refine g_geti (pc := 9) F fl_X8_151 (by assumption) rfl dX8_sign_9 ?_
  refine g_iload_n (pc := 12) F dX8_sign_12 rfl ?_
  refine g_if_eq (pc := 13) (tgt := 20) F dX8_sign_13 (by decide) (fun c13 => ?_) (fun c13 => ?_)
  · refine g_iconst (pc := 20) (v := 0) F dX8_sign_20 (by decide) ?_
    refine g_iadd (pc := 21) F dX8_sign_21 ?_
    refine g_puti (pc := 22) F fl_X8_151 rfl rfl (by assumption) rfl dX8_sign_22 ?_
    refine g_iload_n (pc := 25) F dX8_sign_25 rfl ?_
    refine g_zret (pc := 26) F (nar_b2i _) r dX8_sign_26 ?_
    have hne : ¬ sgn (M 229) tn p = c := fun e => b2i_0 c13 (eq_rng.mpr e)
    refine ⟨by rw [show b2i (sgn (M 229) tn p = c) = 0 from if_neg hne, show b2i (c ≤ sgn (M 229) tn p ∧ sgn (M 229) tn p ≤ c) = 0 from if_neg (fun q => hne (eq_rng.mp q))], ?_⟩
    rw [if_neg hne, hsp, Int32.add_zero]
    rfl
  · refine g_iconst (pc := 16) (v := 1) F dX8_sign_16 (by decide) ?_
    refine g_goto (pc := 17) (tgt := 21) F dX8_sign_17 (by decide) ?_
    refine g_iadd (pc := 21) F dX8_sign_21 ?_
    refine g_puti (pc := 22) F fl_X8_151 rfl rfl (by assumption) rfl dX8_sign_22 ?_
    refine g_iload_n (pc := 25) F dX8_sign_25 rfl ?_
    refine g_zret (pc := 26) F (nar_b2i _) r dX8_sign_26 ?_
    have hne : sgn (M 229) tn p = c := eq_rng.mp (b2i_1 c13)
    refine ⟨by rw [show b2i (sgn (M 229) tn p = c) = 1 from if_pos hne, show b2i (c ≤ sgn (M 229) tn p ∧ sgn (M 229) tn p ≤ c) = 1 from if_pos (eq_rng.mpr hne)], ?_⟩
    rw [if_pos hne, hsp, nI_1]

set_option maxHeartbeats 4000000 in
set_option maxRecDepth 100000 in
theorem c_X8_numbersOf (l : Launch) (g : Gm) (M : Mem) (x : Int32) : Cn l yX8_numbersOf cX8_numbersOf 1 (some .int) 0 0 g [.int x] M (fun v M2 => v = some (.int (nI (wants x))) ∧ M2 = M) := by
  refine Cn.intro (lv0 := [some (.int x)]) 0 (by decide +kernel) (Nat.le_of_ble_eq_true rfl) rfl (fun X F r => ?_)
  refine g_iload_n (pc := 0) F dX8_numbersOf_0 rfl ?_
  by_cases n99 : x = 99
  · refine g_lookup (pc := 1) (off := 51) (tgt := 52) F dX8_numbersOf_1 (by decide) (by exact osw_hit n99 rfl) (by decide) ?_
    refine g_iconst (pc := 52) (v := 5) F dX8_numbersOf_52 (by decide) ?_
    refine g_iret (pc := 53) F r dX8_numbersOf_53 ?_
    refine ⟨?_, rfl⟩
    unfold wants
    rw [if_pos n99]
    rfl
  by_cases n106 : x = 106
  · refine g_lookup (pc := 1) (off := 53) (tgt := 54) F dX8_numbersOf_1 (by decide) (by exact (lv_osw n99 rfl).trans (osw_hit n106 rfl)) (by decide) ?_
    refine g_iconst (pc := 54) (v := 2) F dX8_numbersOf_54 (by decide) ?_
    refine g_iret (pc := 55) F r dX8_numbersOf_55 ?_
    refine ⟨?_, rfl⟩
    unfold wants
    rw [if_neg n99, if_pos n106]
    rfl
  by_cases n112 : x = 112
  · refine g_lookup (pc := 1) (off := 55) (tgt := 56) F dX8_numbersOf_1 (by decide) (by exact (lv_osw n99 rfl).trans ((lv_osw n106 rfl).trans (osw_hit n112 rfl))) (by decide) ?_
    refine g_iconst (pc := 56) (v := 1) F dX8_numbersOf_56 (by decide) ?_
    refine g_iret (pc := 57) F r dX8_numbersOf_57 ?_
    refine ⟨?_, rfl⟩
    unfold wants
    rw [if_neg n99, if_neg n106, if_pos n112]
    rfl
  by_cases n116 : x = 116
  · refine g_lookup (pc := 1) (off := 55) (tgt := 56) F dX8_numbersOf_1 (by decide) (by exact (lv_osw n99 rfl).trans ((lv_osw n106 rfl).trans ((lv_osw n112 rfl).trans (osw_hit n116 rfl)))) (by decide) ?_
    refine g_iconst (pc := 56) (v := 1) F dX8_numbersOf_56 (by decide) ?_
    refine g_iret (pc := 57) F r dX8_numbersOf_57 ?_
    refine ⟨?_, rfl⟩
    unfold wants
    rw [if_neg n99, if_neg n106, if_neg n112, if_pos n116]
    rfl
  by_cases n119 : x = 119
  · refine g_lookup (pc := 1) (off := 55) (tgt := 56) F dX8_numbersOf_1 (by decide) (by exact (lv_osw n99 rfl).trans ((lv_osw n106 rfl).trans ((lv_osw n112 rfl).trans ((lv_osw n116 rfl).trans (osw_hit n119 rfl))))) (by decide) ?_
    refine g_iconst (pc := 56) (v := 1) F dX8_numbersOf_56 (by decide) ?_
    refine g_iret (pc := 57) F r dX8_numbersOf_57 ?_
    refine ⟨?_, rfl⟩
    unfold wants
    rw [if_neg n99, if_neg n106, if_neg n112, if_neg n116, if_pos n119]
    rfl
  refine g_lookup (pc := 1) (off := 57) (tgt := 58) F dX8_numbersOf_1 (by decide) (by exact (lv_osw n99 rfl).trans ((lv_osw n106 rfl).trans ((lv_osw n112 rfl).trans ((lv_osw n116 rfl).trans ((lv_osw n119 rfl).trans (rfl)))))) (by decide) ?_
  refine g_iconst (pc := 58) (v := 0) F dX8_numbersOf_58 (by decide) ?_
  refine g_iret (pc := 59) F r dX8_numbersOf_59 ?_
  refine ⟨?_, rfl⟩
  unfold wants
  rw [if_neg n99, if_neg n106, if_neg n112, if_neg n116, if_neg n119]
  rfl

