/-! THE CHECK'S OBJECT: places 224.., its state M 225 -/
theorem kd224 : kd 224 = 8 := by decide
theorem kd225 : kd 225 = 11 := by decide
theorem kd226 : kd 226 = 12 := by decide
theorem kd227 : kd 227 = 11 := by decide
theorem kd228 : kd 228 = 11 := by decide
theorem kd229 : kd 229 = 13 := by decide
theorem kd230 : kd 230 = 10 := by decide
theorem ixC (i q : Nat) : (4 : Int32) + 15 * nI i + nI q = nI (4 + 15 * i + q) := by
  rw [show (15 : Int32) = nI 15 from rfl, show (4 : Int32) = nI 4 from rfl, nI_mul, nI_add, nI_add]
theorem ixG (i q : Nat) : (94 : Int32) + 4 * nI i + nI q = nI (94 + 4 * i + q) := by
  rw [show (94 : Int32) = nI 94 from rfl, show (4 : Int32) = nI 4 from rfl, nI_mul, nI_add, nI_add]
theorem setC_cw (S : SV) (i : Nat) : setC S i (cw S i) = S := by
  funext k
  unfold setC cw
  split
  · congr 1
    omega
  · rfl
theorem setC_upd (S : SV) (i : Nat) (w : Nat → Int32) {j : Nat} (hj : j < 15) (v : Int32) : setC S i (upd w j v) = upd (setC S i w) (4 + 15 * i + j) v := by
  funext k
  rw [upd_get]
  by_cases h : k = 4 + 15 * i + j
  · rw [if_pos h]
    unfold setC
    rw [if_pos (by omega), show k - (4 + 15 * i) = j by omega, upd_self]
  · rw [if_neg h]
    unfold setC
    by_cases h2 : 4 + 15 * i ≤ k ∧ k < 19 + 15 * i
    · rw [if_pos h2, if_pos h2, upd_ne _ _ (by omega)]
    · rw [if_neg h2, if_neg h2]
theorem setC_setC (S : SV) (i : Nat) (w w' : Nat → Int32) : setC (setC S i w) i w' = setC S i w' := by
  funext k
  unfold setC
  split <;> rfl
theorem setGr_gw (S : SV) (i : Nat) : setGr S i (gw S i) = S := by
  funext k
  unfold setGr gw
  split
  · congr 1
    omega
  · rfl
theorem setGr_upd (S : SV) (i : Nat) (w : Nat → Int32) {j : Nat} (hj : j < 4) (v : Int32) : setGr S i (upd w j v) = upd (setGr S i w) (94 + 4 * i + j) v := by
  funext k
  rw [upd_get]
  by_cases h : k = 94 + 4 * i + j
  · rw [if_pos h]
    unfold setGr
    rw [if_pos (by omega), show k - (94 + 4 * i) = j by omega, upd_self]
  · rw [if_neg h]
    unfold setGr
    by_cases h2 : 94 + 4 * i ≤ k ∧ k < 98 + 4 * i
    · rw [if_pos h2, if_pos h2, upd_ne _ _ (by omega)]
    · rw [if_neg h2, if_neg h2]
theorem updr_of_upd2 (M : Mem) (k : Nat) (r : Nat → Int32) (j : Nat) (v : Int32) : upd2 (updr M k r) k j v = updr M k (upd r j v) := updr_upd2 M k j r v
set_option maxHeartbeats 4000000 in
set_option maxRecDepth 100000 in
theorem c_X8_in (l : Launch) (g : Gm) (M : Mem) (x a b : Int32) : Cn l yX8_in cX8_in 3 (some .boolean) 0 0 g [.int x, .int a, .int b] M (fun v M2 => v = some (.int (b2i (a ≤ x ∧ x ≤ b))) ∧ M2 = M) := by
  refine Cn.intro (lv0 := [some (.int x), some (.int a), some (.int b)]) 0 (by decide +kernel) (Nat.le_of_ble_eq_true rfl) rfl (fun X F r => ?_)
  refine g_iload_n (pc := 0) F dX8_in_0 rfl ?_
  refine g_iload_n (pc := 1) F dX8_in_1 rfl ?_
  refine g_icmp_lt (pc := 2) (tgt := 14) F dX8_in_2 (by decide) (fun c2 => ?_) (fun c2 => ?_)
  · refine g_iconst (pc := 14) (v := 0) F dX8_in_14 (by decide) ?_
    refine g_zret (pc := 15) F (by decide) r dX8_in_15 ?_
    exact ⟨by rw [show b2i (a ≤ x ∧ x ≤ b) = 0 from if_neg (fun q => Int32.not_lt.mpr q.1 c2)], rfl⟩
  · refine g_iload_n (pc := 5) F dX8_in_5 rfl ?_
    refine g_iload_n (pc := 6) F dX8_in_6 rfl ?_
    refine g_icmp_gt (pc := 7) (tgt := 14) F dX8_in_7 (by decide) (fun c7 => ?_) (fun c7 => ?_)
    · refine g_iconst (pc := 14) (v := 0) F dX8_in_14 (by decide) ?_
      refine g_zret (pc := 15) F (by decide) r dX8_in_15 ?_
      exact ⟨by rw [show b2i (a ≤ x ∧ x ≤ b) = 0 from if_neg (fun q => Int32.not_lt.mpr q.2 c7)], rfl⟩
    · refine g_iconst (pc := 10) (v := 1) F dX8_in_10 (by decide) ?_
      refine g_goto (pc := 11) (tgt := 15) F dX8_in_11 (by decide) ?_
      refine g_zret (pc := 15) F (by decide) r dX8_in_15 ?_
      exact ⟨by rw [show b2i (a ≤ x ∧ x ≤ b) = 1 from if_pos ⟨Int32.not_lt.mp c2, Int32.not_lt.mp c7⟩], rfl⟩

set_option maxHeartbeats 4000000 in
set_option maxRecDepth 100000 in
theorem c_X8_isClock (l : Launch) (g : Gm) (M : Mem) (x : Int32) : Cn l yX8_isClock cX8_isClock 2 (some .boolean) 0 0 g [.ref (ad g 224), .int x] M (fun v M2 => v = some (.int (b2i (0 ≤ x ∧ x < M 225 0))) ∧ M2 = M) := by
  refine Cn.intro (lv0 := [some (.ref (ad g 224)), some (.int x)]) 0 (by decide +kernel) (Nat.le_of_ble_eq_true rfl) rfl (fun X F r => ?_)
  have k224 := kd224
  have k225 := kd225
  refine g_iload_n (pc := 0) F dX8_isClock_0 rfl ?_
  refine g_if_lt (pc := 1) (tgt := 18) F dX8_isClock_1 (by decide) (fun c1 => ?_) (fun c1 => ?_)
  · refine g_iconst (pc := 18) (v := 0) F dX8_isClock_18 (by decide) ?_
    refine g_zret (pc := 19) F (by decide) r dX8_isClock_19 ?_
    exact ⟨by rw [show b2i (0 ≤ x ∧ x < M 225 0) = 0 from if_neg (fun q => Int32.not_lt.mpr q.1 c1)], rfl⟩
  · refine g_iload_n (pc := 4) F dX8_isClock_4 rfl ?_
    refine g_aload_n (pc := 5) F dX8_isClock_5 rfl ?_
    refine g_getr (pc := 6) F fl_X8_7 (by assumption) rfl dX8_isClock_6 ?_
    refine g_iconst (pc := 9) (v := 0) F dX8_isClock_9 (by decide) ?_
    refine g_iald (pc := 10) (q := 0) F k225 rfl (by decide) (by decide) dX8_isClock_10 ?_
    refine g_icmp_ge (pc := 11) (tgt := 18) F dX8_isClock_11 (by decide) (fun c11 => ?_) (fun c11 => ?_)
    · refine g_iconst (pc := 18) (v := 0) F dX8_isClock_18 (by decide) ?_
      refine g_zret (pc := 19) F (by decide) r dX8_isClock_19 ?_
      exact ⟨by rw [show b2i (0 ≤ x ∧ x < M 225 0) = 0 from if_neg (fun q => Int32.not_lt.mpr c11 q.2)], rfl⟩
    · refine g_iconst (pc := 14) (v := 1) F dX8_isClock_14 (by decide) ?_
      refine g_goto (pc := 15) (tgt := 19) F dX8_isClock_15 (by decide) ?_
      refine g_zret (pc := 19) F (by decide) r dX8_isClock_19 ?_
      exact ⟨by rw [show b2i (0 ≤ x ∧ x < M 225 0) = 1 from if_pos ⟨Int32.not_lt.mp c1, Int32.not_le.mp c11⟩], rfl⟩

set_option maxHeartbeats 4000000 in
set_option maxRecDepth 100000 in
theorem c_X8_isGroup (l : Launch) (g : Gm) (M : Mem) (x : Int32) : Cn l yX8_isGroup cX8_isGroup 2 (some .boolean) 0 0 g [.ref (ad g 224), .int x] M (fun v M2 => v = some (.int (b2i (0 ≤ x ∧ x < M 225 1))) ∧ M2 = M) := by
  refine Cn.intro (lv0 := [some (.ref (ad g 224)), some (.int x)]) 0 (by decide +kernel) (Nat.le_of_ble_eq_true rfl) rfl (fun X F r => ?_)
  have k224 := kd224
  have k225 := kd225
  refine g_iload_n (pc := 0) F dX8_isGroup_0 rfl ?_
  refine g_if_lt (pc := 1) (tgt := 18) F dX8_isGroup_1 (by decide) (fun c1 => ?_) (fun c1 => ?_)
  · refine g_iconst (pc := 18) (v := 0) F dX8_isGroup_18 (by decide) ?_
    refine g_zret (pc := 19) F (by decide) r dX8_isGroup_19 ?_
    exact ⟨by rw [show b2i (0 ≤ x ∧ x < M 225 1) = 0 from if_neg (fun q => Int32.not_lt.mpr q.1 c1)], rfl⟩
  · refine g_iload_n (pc := 4) F dX8_isGroup_4 rfl ?_
    refine g_aload_n (pc := 5) F dX8_isGroup_5 rfl ?_
    refine g_getr (pc := 6) F fl_X8_7 (by assumption) rfl dX8_isGroup_6 ?_
    refine g_iconst (pc := 9) (v := 1) F dX8_isGroup_9 (by decide) ?_
    refine g_iald (pc := 10) (q := 1) F k225 rfl (by decide) (by decide) dX8_isGroup_10 ?_
    refine g_icmp_ge (pc := 11) (tgt := 18) F dX8_isGroup_11 (by decide) (fun c11 => ?_) (fun c11 => ?_)
    · refine g_iconst (pc := 18) (v := 0) F dX8_isGroup_18 (by decide) ?_
      refine g_zret (pc := 19) F (by decide) r dX8_isGroup_19 ?_
      exact ⟨by rw [show b2i (0 ≤ x ∧ x < M 225 1) = 0 from if_neg (fun q => Int32.not_lt.mpr c11 q.2)], rfl⟩
    · refine g_iconst (pc := 14) (v := 1) F dX8_isGroup_14 (by decide) ?_
      refine g_goto (pc := 15) (tgt := 19) F dX8_isGroup_15 (by decide) ?_
      refine g_zret (pc := 19) F (by decide) r dX8_isGroup_19 ?_
      exact ⟨by rw [show b2i (0 ≤ x ∧ x < M 225 1) = 1 from if_pos ⟨Int32.not_lt.mp c1, Int32.not_le.mp c11⟩], rfl⟩

set_option maxHeartbeats 4000000 in
set_option maxRecDepth 100000 in
theorem c_X8_of (l : Launch) (g : Gm) (M : Mem) (i : Nat) (hi : i < 6) (q : Nat) (hq : q < 15) : Cn l yX8_of cX8_of 3 (some .int) 0 0 g [.ref (ad g 224), .int (nI i), .int (nI q)] M (fun v M2 => v = some (.int (M 225 (4 + 15 * i + q))) ∧ M2 = M) := by
  refine Cn.intro (lv0 := [some (.ref (ad g 224)), some (.int (nI i)), some (.int (nI q))]) 0 (by decide +kernel) (Nat.le_of_ble_eq_true rfl) rfl (fun X F r => ?_)
  have k224 := kd224
  have k225 := kd225
  refine g_aload_n (pc := 0) F dX8_of_0 rfl ?_
  refine g_getr (pc := 1) F fl_X8_7 (by assumption) rfl dX8_of_1 ?_
  refine g_iconst (pc := 4) (v := 4) F dX8_of_4 (by decide) ?_
  refine g_bipush (pc := 5) (v := 15) F dX8_of_5 (by decide) ?_
  refine g_iload_n (pc := 7) F dX8_of_7 rfl ?_
  refine g_imul (pc := 8) F dX8_of_8 ?_
  refine g_iadd (pc := 9) F dX8_of_9 ?_
  refine g_iload_n (pc := 10) F dX8_of_10 rfl ?_
  refine g_iadd (pc := 11) F dX8_of_11 ?_
  refine g_iald (pc := 12) (q := 4 + 15 * i + q) F k225 rfl (ixC i q) (by omega) dX8_of_12 ?_
  refine g_iret (pc := 13) F r dX8_of_13 ?_
  exact ⟨rfl, rfl⟩

set_option maxHeartbeats 4000000 in
set_option maxRecDepth 100000 in
theorem c_X8_sets (l : Launch) (g : Gm) (M : Mem) (i : Nat) (hi : i < 6) (q : Nat) (hq : q < 15) (y : Int32) : Cn l yX8_sets cX8_sets 4 none 0 0 g [.ref (ad g 224), .int (nI i), .int (nI q), .int y] M (fun v M2 => v = none ∧ M2 = upd2 M 225 (4 + 15 * i + q) y) := by
  refine Cn.intro (lv0 := [some (.ref (ad g 224)), some (.int (nI i)), some (.int (nI q)), some (.int y)]) 0 (by decide +kernel) (Nat.le_of_ble_eq_true rfl) rfl (fun X F r => ?_)
  have k224 := kd224
  have k225 := kd225
  refine g_aload_n (pc := 0) F dX8_sets_0 rfl ?_
  refine g_getr (pc := 1) F fl_X8_7 (by assumption) rfl dX8_sets_1 ?_
  refine g_iconst (pc := 4) (v := 4) F dX8_sets_4 (by decide) ?_
  refine g_bipush (pc := 5) (v := 15) F dX8_sets_5 (by decide) ?_
  refine g_iload_n (pc := 7) F dX8_sets_7 rfl ?_
  refine g_imul (pc := 8) F dX8_sets_8 ?_
  refine g_iadd (pc := 9) F dX8_sets_9 ?_
  refine g_iload_n (pc := 10) F dX8_sets_10 rfl ?_
  refine g_iadd (pc := 11) F dX8_sets_11 ?_
  refine g_iload_n (pc := 12) F dX8_sets_12 rfl ?_
  refine g_iast (pc := 13) (q := 4 + 15 * i + q) F k225 rfl (ixC i q) (by omega) dX8_sets_13 ?_
  refine g_vret (pc := 14) F r dX8_sets_14 ?_
  exact ⟨rfl, rfl⟩

set_option maxHeartbeats 4000000 in
set_option maxRecDepth 100000 in
theorem c_X8_adds (l : Launch) (g : Gm) (M : Mem) (i : Nat) (hi : i < 6) (q : Nat) (hq : q < 15) (y : Int32) : Cn l yX8_adds cX8_adds 4 none 0 0 g [.ref (ad g 224), .int (nI i), .int (nI q), .int y] M (fun v M2 => v = none ∧ M2 = upd2 M 225 (4 + 15 * i + q) (M 225 (4 + 15 * i + q) + y)) := by
  refine Cn.intro (lv0 := [some (.ref (ad g 224)), some (.int (nI i)), some (.int (nI q)), some (.int y)]) 0 (by decide +kernel) (Nat.le_of_ble_eq_true rfl) rfl (fun X F r => ?_)
  have k224 := kd224
  have k225 := kd225
  refine g_aload_n (pc := 0) F dX8_adds_0 rfl ?_
  refine g_getr (pc := 1) F fl_X8_7 (by assumption) rfl dX8_adds_1 ?_
  refine g_iconst (pc := 4) (v := 4) F dX8_adds_4 (by decide) ?_
  refine g_bipush (pc := 5) (v := 15) F dX8_adds_5 (by decide) ?_
  refine g_iload_n (pc := 7) F dX8_adds_7 rfl ?_
  refine g_imul (pc := 8) F dX8_adds_8 ?_
  refine g_iadd (pc := 9) F dX8_adds_9 ?_
  refine g_iload_n (pc := 10) F dX8_adds_10 rfl ?_
  refine g_iadd (pc := 11) F dX8_adds_11 ?_
  refine g_dup2 (pc := 12) F dX8_adds_12 rfl rfl ?_
  refine g_iald (pc := 13) (q := 4 + 15 * i + q) F k225 rfl (ixC i q) (by omega) dX8_adds_13 ?_
  refine g_iload_n (pc := 14) F dX8_adds_14 rfl ?_
  refine g_iadd (pc := 15) F dX8_adds_15 ?_
  refine g_iast (pc := 16) (q := 4 + 15 * i + q) F k225 rfl (ixC i q) (by omega) dX8_adds_16 ?_
  refine g_vret (pc := 17) F r dX8_adds_17 ?_
  exact ⟨rfl, rfl⟩

set_option maxHeartbeats 4000000 in
set_option maxRecDepth 100000 in
theorem c_X8_ofGroup (l : Launch) (g : Gm) (M : Mem) (i : Nat) (hi : i < 4) (q : Nat) (hq : q < 4) : Cn l yX8_ofGroup cX8_ofGroup 3 (some .int) 0 0 g [.ref (ad g 224), .int (nI i), .int (nI q)] M (fun v M2 => v = some (.int (M 225 (94 + 4 * i + q))) ∧ M2 = M) := by
  refine Cn.intro (lv0 := [some (.ref (ad g 224)), some (.int (nI i)), some (.int (nI q))]) 0 (by decide +kernel) (Nat.le_of_ble_eq_true rfl) rfl (fun X F r => ?_)
  have k224 := kd224
  have k225 := kd225
  refine g_aload_n (pc := 0) F dX8_ofGroup_0 rfl ?_
  refine g_getr (pc := 1) F fl_X8_7 (by assumption) rfl dX8_ofGroup_1 ?_
  refine g_bipush (pc := 4) (v := 94) F dX8_ofGroup_4 (by decide) ?_
  refine g_iconst (pc := 6) (v := 4) F dX8_ofGroup_6 (by decide) ?_
  refine g_iload_n (pc := 7) F dX8_ofGroup_7 rfl ?_
  refine g_imul (pc := 8) F dX8_ofGroup_8 ?_
  refine g_iadd (pc := 9) F dX8_ofGroup_9 ?_
  refine g_iload_n (pc := 10) F dX8_ofGroup_10 rfl ?_
  refine g_iadd (pc := 11) F dX8_ofGroup_11 ?_
  refine g_iald (pc := 12) (q := 94 + 4 * i + q) F k225 rfl (ixG i q) (by omega) dX8_ofGroup_12 ?_
  refine g_iret (pc := 13) F r dX8_ofGroup_13 ?_
  exact ⟨rfl, rfl⟩

set_option maxHeartbeats 4000000 in
set_option maxRecDepth 100000 in
theorem c_X8_rest (l : Launch) (g : Gm) (M : Mem) (i : Nat) (hi : i < 6) : Cn l yX8_rest cX8_rest 2 (some .int) 1 22 g [.ref (ad g 224), .int (nI i)] M (fun v M2 => v = some (.int (restW (M 225) i)) ∧ M2 = M) := by
  refine Cn.intro (lv0 := [some (.ref (ad g 224)), some (.int (nI i))]) 0 (by decide +kernel) (Nat.le_of_ble_eq_true rfl) rfl (fun X F r => ?_)
  have k224 := kd224
  have k225 := kd225
  refine g_aload_n (pc := 0) F dX8_rest_0 rfl ?_
  refine g_iload_n (pc := 1) F dX8_rest_1 rfl ?_
  refine g_bipush (pc := 2) (v := 6) F dX8_rest_2 (by decide) ?_
  refine g_callV (pc := 4) (rf2 := 0) (rl2 := 0) F cs_X8_36 k224 rfl (by decide) (by rfl) (by rfl) (Nat.le_of_ble_eq_true (by rfl)) (by decide) dX8_rest_4 (c_X8_of _ g _ i hi 6 (by decide)) (fun v M2 hz => ?_)
  obtain ⟨rfl, h2⟩ := hz
  rw [h2]
  refine g_aload_n (pc := 7) F dX8_rest_7 rfl ?_
  refine g_iload_n (pc := 8) F dX8_rest_8 rfl ?_
  refine g_bipush (pc := 9) (v := 7) F dX8_rest_9 (by decide) ?_
  refine g_callV (pc := 11) (rf2 := 0) (rl2 := 0) F cs_X8_36 k224 rfl (by decide) (by rfl) (by rfl) (Nat.le_of_ble_eq_true (by rfl)) (by decide) dX8_rest_11 (c_X8_of _ g _ i hi 7 (by decide)) (fun v M2 hz => ?_)
  obtain ⟨rfl, h2⟩ := hz
  rw [h2]
  refine g_isub (pc := 14) F dX8_rest_14 ?_
  refine g_iret (pc := 15) F r dX8_rest_15 ?_
  exact ⟨rfl, rfl⟩

set_option maxHeartbeats 4000000 in
set_option maxRecDepth 100000 in
theorem c_X8_draw (l : Launch) (g : Gm) (M : Mem) (n : Int32) (hn : ¬ n = 0) : Cn l yX8_draw cX8_draw 2 (some .int) 0 0 g [.ref (ad g 224), .int n] M (fun v M2 => v = some (.int (jrem (xnext (M 225 3)) n)) ∧ M2 = upd2 M 225 3 (xnext (M 225 3))) := by
  refine Cn.intro (lv0 := [some (.ref (ad g 224)), some (.int n)]) 0 (by decide +kernel) (Nat.le_of_ble_eq_true rfl) rfl (fun X F r => ?_)
  have k224 := kd224
  have k225 := kd225
  refine g_aload_n (pc := 0) F dX8_draw_0 rfl ?_
  refine g_getr (pc := 1) F fl_X8_7 (by assumption) rfl dX8_draw_1 ?_
  refine g_iconst (pc := 4) (v := 3) F dX8_draw_4 (by decide) ?_
  refine g_aload_n (pc := 5) F dX8_draw_5 rfl ?_
  refine g_getr (pc := 6) F fl_X8_7 (by assumption) rfl dX8_draw_6 ?_
  refine g_iconst (pc := 9) (v := 3) F dX8_draw_9 (by decide) ?_
  refine g_iald (pc := 10) (q := 3) F k225 rfl (by decide) (by decide) dX8_draw_10 ?_
  refine g_sipush (pc := 11) (v := 421) F dX8_draw_11 (by decide) ?_
  refine g_imul (pc := 14) F dX8_draw_14 ?_
  refine g_sipush (pc := 15) (v := 1663) F dX8_draw_15 (by decide) ?_
  refine g_iadd (pc := 18) F dX8_draw_18 ?_
  refine g_sipush (pc := 19) (v := 10000) F dX8_draw_19 (by decide) ?_
  refine g_irem (pc := 22) F (by decide) dX8_draw_22 ?_
  refine g_iast (pc := 23) (q := 3) F k225 rfl (by decide) (by decide) dX8_draw_23 ?_
  refine g_aload_n (pc := 24) F dX8_draw_24 rfl ?_
  refine g_getr (pc := 25) F fl_X8_7 (by assumption) rfl dX8_draw_25 ?_
  refine g_iconst (pc := 28) (v := 3) F dX8_draw_28 (by decide) ?_
  refine g_iald (pc := 29) (q := 3) F k225 rfl (by decide) (by decide) dX8_draw_29 ?_
  refine g_iload_n (pc := 30) F dX8_draw_30 rfl ?_
  refine g_irem (pc := 31) F hn dX8_draw_31 ?_
  refine g_iret (pc := 32) F r dX8_draw_32 ?_
  refine ⟨?_, rfl⟩
  rw [upd2_self]
  rfl

def psum (w : Nat → Int32) : Nat → Int32
  | 0 => 0
  | k + 1 => psum w k + (if 0 < w (k + 1) then 1 else 0)
theorem psum4 (w : Nat → Int32) (h : ¬ w 0 = 2) : psum w 4 = places w := by
  show 0 + (if 0 < w 1 then 1 else 0) + (if 0 < w 2 then 1 else 0) + (if 0 < w 3 then 1 else 0) + (if 0 < w 4 then 1 else 0) = _
  unfold places
  rw [if_neg h, Int32.zero_add]
set_option maxHeartbeats 4000000 in
set_option maxRecDepth 100000 in
theorem c_X8_places (l : Launch) (g : Gm) (M : Mem) (i : Nat) (hi : i < 6) : Cn l yX8_places cX8_places 4 (some .int) 1 22 g [.ref (ad g 224), .int (nI i)] M (fun v M2 => v = some (.int (places (cw (M 225) i))) ∧ M2 = M) := by
  refine Cn.intro (lv0 := [some (.ref (ad g 224)), some (.int (nI i)), none, none]) 2 (by decide +kernel) (Nat.le_of_ble_eq_true rfl) rfl (fun X F r => ?_)
  have k224 := kd224
  have k225 := kd225
  refine g_aload_n (pc := 0) F dX8_places_0 rfl ?_
  refine g_iload_n (pc := 1) F dX8_places_1 rfl ?_
  refine g_iconst (pc := 2) (v := 0) F dX8_places_2 (by decide) ?_
  refine g_callV (pc := 3) (rf2 := 0) (rl2 := 0) F cs_X8_36 k224 rfl (by decide) (by rfl) (by rfl) (Nat.le_of_ble_eq_true (by rfl)) (by decide) dX8_places_3 (c_X8_of _ g _ i hi 0 (by decide)) (fun v M2 hz => ?_)
  obtain ⟨rfl, h2⟩ := hz
  rw [h2]
  refine g_iconst (pc := 6) (v := 2) F dX8_places_6 (by decide) ?_
  refine g_icmp_ne (pc := 7) (tgt := 19) F dX8_places_7 (by decide) (fun c7 => ?_) (fun c7 => ?_)
  · have c7 : ¬ cw (M 225) i 0 = 2 := c7
    refine g_iconst (pc := 19) (v := 0) F dX8_places_19 (by decide) ?_
    refine g_istore_n (pc := 20) F dX8_places_20 (by decide) rfl ?_
    refine g_iconst (pc := 21) (v := 1) F dX8_places_21 (by decide) ?_
    refine g_istore_n (pc := 22) F dX8_places_22 (by decide) rfl ?_
    have L : ∀ (n j : Nat) (y : Int32), j + n = 4 → y = nI (j + 1) → G X g 4 M 23 [some (.ref (ad g 224)), some (.int (nI i)), some (.int (psum (cw (M 225) i) j)), some (.int y)] [] := by
      intro n
      induction n with
      | zero =>
        intro j y hjn hy
        obtain rfl : j = 4 := by omega
        refine g_iload_n (pc := 23) F dX8_places_23 rfl ?_
        refine g_iconst (pc := 24) (v := 5) F dX8_places_24 (by decide) ?_
        refine g_icmp_ge (pc := 25) (tgt := 51) F dX8_places_25 (by decide) (fun c25 => ?_) (fun c25 => ?_)
        · refine g_iload_n (pc := 51) F dX8_places_51 rfl ?_
          refine g_iret (pc := 52) F r dX8_places_52 ?_
          exact ⟨by rw [psum4 _ c7], rfl⟩
        · exact absurd (by rw [hy]; decide) c25
      | succ n ih =>
        intro j y hjn hy
        refine g_iload_n (pc := 23) F dX8_places_23 rfl ?_
        refine g_iconst (pc := 24) (v := 5) F dX8_places_24 (by decide) ?_
        refine g_icmp_ge (pc := 25) (tgt := 51) F dX8_places_25 (by decide) (fun c25 => ?_) (fun c25 => ?_)
        · exact absurd c25 (by rw [hy]; exact nI_ge (a := j + 1) (b := 5) (by omega) (by decide))
        · refine g_iload_n (pc := 28) F dX8_places_28 rfl ?_
          refine g_aload_n (pc := 29) F dX8_places_29 rfl ?_
          refine g_iload_n (pc := 30) F dX8_places_30 rfl ?_
          refine g_iload_n (pc := 31) F dX8_places_31 rfl ?_
          refine g_stk (st' := [.int (nI (j + 1)), .int (nI i), .ref (ad g 224), .int (psum (cw (M 225) i) j)]) (by rw [hy]) ?_
          refine g_callV (pc := 32) (rf2 := 0) (rl2 := 0) F cs_X8_36 k224 rfl (by decide) (by rfl) (by rfl) (Nat.le_of_ble_eq_true (by rfl)) (by decide) dX8_places_32 (c_X8_of _ g _ i hi (j + 1) (by omega)) (fun v M2 hz => ?_)
          obtain ⟨rfl, h2⟩ := hz
          rw [h2]
          refine g_if_le (pc := 35) (tgt := 42) F dX8_places_35 (by decide) (fun c35 => ?_) (fun c35 => ?_)
          · have e35 : M 225 (4 + 15 * i + (j + 1)) = cw (M 225) i (j + 1) := rfl
            rw [e35] at c35
            refine g_iconst (pc := 42) (v := 0) F dX8_places_42 (by decide) ?_
            refine g_iadd (pc := 43) F dX8_places_43 ?_
            refine g_istore_n (pc := 44) F dX8_places_44 (by decide) rfl ?_
            refine g_iinc (pc := 45) F dX8_places_45 rfl rfl (by decide) rfl ?_
            refine g_goto (pc := 48) (tgt := 23) F dX8_places_48 (by decide) ?_
            refine G.sub [some (.ref (ad g 224)), some (.int (nI i)), some (.int (psum (cw (M 225) i) (j + 1))), some (.int (y + Int32.ofInt 1))] ⟨rfl, rfl, ?_, rfl, trivial⟩ (ih (j + 1) _ (by omega) (by rw [hy]; exact nI_1 (j + 1)))
            show some (Value.int _) = some (Value.int (psum (cw (M 225) i) j + (if 0 < cw (M 225) i (j + 1) then 1 else 0)))
            rw [if_neg (fun e => Int32.not_lt.mpr c35 e)]
          · have e35 : M 225 (4 + 15 * i + (j + 1)) = cw (M 225) i (j + 1) := rfl
            rw [e35] at c35
            refine g_iconst (pc := 38) (v := 1) F dX8_places_38 (by decide) ?_
            refine g_goto (pc := 39) (tgt := 43) F dX8_places_39 (by decide) ?_
            refine g_iadd (pc := 43) F dX8_places_43 ?_
            refine g_istore_n (pc := 44) F dX8_places_44 (by decide) rfl ?_
            refine g_iinc (pc := 45) F dX8_places_45 rfl rfl (by decide) rfl ?_
            refine g_goto (pc := 48) (tgt := 23) F dX8_places_48 (by decide) ?_
            refine G.sub [some (.ref (ad g 224)), some (.int (nI i)), some (.int (psum (cw (M 225) i) (j + 1))), some (.int (y + Int32.ofInt 1))] ⟨rfl, rfl, ?_, rfl, trivial⟩ (ih (j + 1) _ (by omega) (by rw [hy]; exact nI_1 (j + 1)))
            show some (Value.int _) = some (Value.int (psum (cw (M 225) i) j + (if 0 < cw (M 225) i (j + 1) then 1 else 0)))
            rw [if_pos (Int32.not_le.mp c35)]
    exact L 4 0 _ (by omega) nI1
  · have c7 : cw (M 225) i 0 = 2 := c7
    refine g_aload_n (pc := 10) F dX8_places_10 rfl ?_
    refine g_iload_n (pc := 11) F dX8_places_11 rfl ?_
    refine g_iconst (pc := 12) (v := 2) F dX8_places_12 (by decide) ?_
    refine g_callV (pc := 13) (rf2 := 0) (rl2 := 0) F cs_X8_36 k224 rfl (by decide) (by rfl) (by rfl) (Nat.le_of_ble_eq_true (by rfl)) (by decide) dX8_places_13 (c_X8_of _ g _ i hi 2 (by decide)) (fun v M2 hz => ?_)
    obtain ⟨rfl, h2⟩ := hz
    rw [h2]
    refine g_iconst (pc := 16) (v := 1) F dX8_places_16 (by decide) ?_
    refine g_iadd (pc := 17) F dX8_places_17 ?_
    refine g_iret (pc := 18) F r dX8_places_18 ?_
    exact ⟨by rw [show places (cw (M 225) i) = M 225 (4 + 15 * i + 2) + 1 from if_pos c7], rfl⟩

set_option maxHeartbeats 4000000 in
set_option maxRecDepth 100000 in
theorem c_X8_gapAt (l : Launch) (g : Gm) (M : Mem) (i : Nat) (hi : i < 6) (p : Int32) (hp : cw (M 225) i 0 = 2 ∨ ∃ j, j < 4 ∧ p = nI j) : Cn l yX8_gapAt cX8_gapAt 3 (some .int) 1 22 g [.ref (ad g 224), .int (nI i), .int p] M (fun v M2 => v = some (.int (gapAt (cw (M 225) i) p)) ∧ M2 = M) := by
  refine Cn.intro (lv0 := [some (.ref (ad g 224)), some (.int (nI i)), some (.int p)]) 0 (by decide +kernel) (Nat.le_of_ble_eq_true rfl) rfl (fun X F r => ?_)
  have k224 := kd224
  have k225 := kd225
  refine g_aload_n (pc := 0) F dX8_gapAt_0 rfl ?_
  refine g_iload_n (pc := 1) F dX8_gapAt_1 rfl ?_
  refine g_iconst (pc := 2) (v := 0) F dX8_gapAt_2 (by decide) ?_
  refine g_callV (pc := 3) (rf2 := 0) (rl2 := 0) F cs_X8_36 k224 rfl (by decide) (by rfl) (by rfl) (Nat.le_of_ble_eq_true (by rfl)) (by decide) dX8_gapAt_3 (c_X8_of _ g _ i hi 0 (by decide)) (fun v M2 hz => ?_)
  obtain ⟨rfl, h2⟩ := hz
  rw [h2]
  refine g_iconst (pc := 6) (v := 2) F dX8_gapAt_6 (by decide) ?_
  refine g_icmp_ne (pc := 7) (tgt := 36) F dX8_gapAt_7 (by decide) (fun c7 => ?_) (fun c7 => ?_)
  · have c7 : ¬ cw (M 225) i 0 = 2 := c7
    obtain ⟨j, hj, hpj⟩ := hp.resolve_left c7
    refine g_aload_n (pc := 36) F dX8_gapAt_36 rfl ?_
    refine g_iload_n (pc := 37) F dX8_gapAt_37 rfl ?_
    refine g_iconst (pc := 38) (v := 1) F dX8_gapAt_38 (by decide) ?_
    refine g_iload_n (pc := 39) F dX8_gapAt_39 rfl ?_
    refine g_iadd (pc := 40) F dX8_gapAt_40 ?_
    refine g_stk (st' := [.int (nI (1 + j)), .int (nI i), .ref (ad g 224)]) (by rw [hpj, show (1 : Int32) = nI 1 from rfl, nI_add] <;> rfl) ?_
    refine g_callV (pc := 41) (rf2 := 0) (rl2 := 0) F cs_X8_36 k224 rfl (by decide) (by rfl) (by rfl) (Nat.le_of_ble_eq_true (by rfl)) (by decide) dX8_gapAt_41 (c_X8_of _ g _ i hi (1 + j) (by omega)) (fun v M2 hz => ?_)
    obtain ⟨rfl, h2⟩ := hz
    rw [h2]
    refine g_iret (pc := 44) F r dX8_gapAt_44 ?_
    exact ⟨by rw [show gapAt (cw (M 225) i) p = _ from if_neg c7, hpj, nI_clamp (by omega)] <;> rfl, rfl⟩
  · have c7 : cw (M 225) i 0 = 2 := c7
    refine g_iload_n (pc := 10) F dX8_gapAt_10 rfl ?_
    refine g_aload_n (pc := 11) F dX8_gapAt_11 rfl ?_
    refine g_iload_n (pc := 12) F dX8_gapAt_12 rfl ?_
    refine g_iconst (pc := 13) (v := 2) F dX8_gapAt_13 (by decide) ?_
    refine g_callV (pc := 14) (rf2 := 0) (rl2 := 0) F cs_X8_36 k224 rfl (by decide) (by rfl) (by rfl) (Nat.le_of_ble_eq_true (by rfl)) (by decide) dX8_gapAt_14 (c_X8_of _ g _ i hi 2 (by decide)) (fun v M2 hz => ?_)
    obtain ⟨rfl, h2⟩ := hz
    rw [h2]
    refine g_icmp_ge (pc := 17) (tgt := 29) F dX8_gapAt_17 (by decide) (fun c17 => ?_) (fun c17 => ?_)
    · refine g_aload_n (pc := 29) F dX8_gapAt_29 rfl ?_
      refine g_iload_n (pc := 30) F dX8_gapAt_30 rfl ?_
      refine g_iconst (pc := 31) (v := 3) F dX8_gapAt_31 (by decide) ?_
      refine g_callV (pc := 32) (rf2 := 0) (rl2 := 0) F cs_X8_36 k224 rfl (by decide) (by rfl) (by rfl) (Nat.le_of_ble_eq_true (by rfl)) (by decide) dX8_gapAt_32 (c_X8_of _ g _ i hi 3 (by decide)) (fun v M2 hz => ?_)
      obtain ⟨rfl, h2⟩ := hz
      rw [h2]
      refine g_iret (pc := 35) F r dX8_gapAt_35 ?_
      have e : gapAt (cw (M 225) i) p = M 225 (4 + 15 * i + 3) := (if_pos c7).trans (if_neg (fun e => Int32.not_lt.mpr c17 e))
      exact ⟨by rw [e], rfl⟩
    · refine g_aload_n (pc := 20) F dX8_gapAt_20 rfl ?_
      refine g_iload_n (pc := 21) F dX8_gapAt_21 rfl ?_
      refine g_iconst (pc := 22) (v := 1) F dX8_gapAt_22 (by decide) ?_
      refine g_callV (pc := 23) (rf2 := 0) (rl2 := 0) F cs_X8_36 k224 rfl (by decide) (by rfl) (by rfl) (Nat.le_of_ble_eq_true (by rfl)) (by decide) dX8_gapAt_23 (c_X8_of _ g _ i hi 1 (by decide)) (fun v M2 hz => ?_)
      obtain ⟨rfl, h2⟩ := hz
      rw [h2]
      refine g_goto (pc := 26) (tgt := 35) F dX8_gapAt_26 (by decide) ?_
      refine g_iret (pc := 35) F r dX8_gapAt_35 ?_
      have e : gapAt (cw (M 225) i) p = M 225 (4 + 15 * i + 1) := (if_pos c7).trans (if_pos (Int32.not_le.mp c17))
      exact ⟨by rw [e], rfl⟩

