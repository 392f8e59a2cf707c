/-! numbers, memory: small laws -/
theorem updr_get (M : Mem) (k : Nat) (r : Nat → Int32) (a b : Nat) : updr M k r a b = if a = k then r b else M a b := by unfold updr; split <;> rfl
theorem upd2_get (M : Mem) (k j : Nat) (v : Int32) (a b : Nat) : upd2 M k j v a b = if a = k then (if b = j then v else M k b) else M a b := by unfold upd2 upd; split <;> rfl
theorem upd2_self (M : Mem) (k j : Nat) (v : Int32) : upd2 M k j v k j = v := by simp [upd2_get]
theorem upd2_j (M : Mem) (k : Nat) {j i : Nat} (v : Int32) (h : i ≠ j) : upd2 M k j v k i = M k i := by simp [upd2_get, h]
theorem upd2_k (M : Mem) {k a : Nat} (j : Nat) (v : Int32) (h : a ≠ k) : upd2 M k j v a = M a := by simp [upd2, h]
theorem upd2_updr (M : Mem) (k j : Nat) (v : Int32) : upd2 M k j v = updr M k (upd (M k) j v) := by funext a; simp [upd2, updr]
theorem updr_upd2 (M : Mem) (k j : Nat) (r : Nat → Int32) (v : Int32) : upd2 (updr M k r) k j v = updr M k (upd r j v) := by funext a; by_cases h : a = k <;> simp [upd2, updr, h]
theorem updr_updr (M : Mem) (k : Nat) (r r' : Nat → Int32) : updr (updr M k r) k r' = updr M k r' := by funext a; by_cases h : a = k <;> simp [updr, h]
theorem updr_self (M : Mem) (k : Nat) (r : Nat → Int32) : updr M k r k = r := by simp [updr]
theorem updr_ne (M : Mem) {k a : Nat} (r : Nat → Int32) (h : a ≠ k) : updr M k r a = M a := by simp [updr, h]
theorem updr_same (M : Mem) (k : Nat) : updr M k (M k) = M := by funext a; by_cases h : a = k <;> simp [updr, h]
/-- kinds round a clock, a hall -/
theorem kd_clk {k : Nat} (h : kd k = 0) : kd (k + 1) = 9 ∧ kd (k + 2) = 1 ∧ kd (k + 3) = 1 := by
  have hk := kd_lt h (by decide)
  have : ∀ k, k < 228 → kd k = 0 → kd (k + 1) = 9 ∧ kd (k + 2) = 1 ∧ kd (k + 3) = 1 := by decide +kernel
  exact this k hk h
theorem kd_hall {k : Nat} (h : kd k = 3) : kd (k + 1) = 15 ∧ kd (k + 2) = 16 ∧ (∀ i, i < 6 → kd (k + 3 + 4 * i) = 0) ∧ ∀ i, i < 4 → kd (k + 27 + i) = 2 := by
  have hk := kd_lt h (by decide)
  have : ∀ k, k < 228 → kd k = 3 → kd (k + 1) = 15 ∧ kd (k + 2) = 16 ∧ (∀ i, i < 6 → kd (k + 3 + 4 * i) = 0) ∧ ∀ i, i < 4 → kd (k + 27 + i) = 2 := by decide +kernel
  exact this k hk h
/-! Gaps -/
/-- a tally with one gap more, so often -/
def radd (r : Nat → Int32) (gp t : Int32) : Nat → Int32 := fun j => if j = 0 then r 0 + t else if j = 1 then r 1 + gp * t else if j = 2 then r 2 + gp * gp * t else if j = 3 then r 3 + gp * (gp + 1) / 2 * t else if j = 4 then (if r 4 < gp then gp else r 4) else r j
def rzero (r : Nat → Int32) : Nat → Int32 := fun j => if j < 5 then 0 else r j
def rcopy (r r' : Nat → Int32) : Nat → Int32 := fun j => if j < 5 then r' j else r j
set_option maxHeartbeats 4000000 in
set_option maxRecDepth 100000 in
theorem c_X1_empty (l : Launch) (g : Gm) (M : Mem) (q : Nat) (hk : kd q = 1) : Cn l yX1_empty cX1_empty 1 none 0 0 g [.ref (ad g q)] M (fun v M2 => v = none ∧ M2 = updr M q (rzero (M q))) := by
  refine Cn.intro (lv0 := [some (.ref (ad g q))]) 0 (by decide +kernel) (Nat.le_of_ble_eq_true rfl) rfl (fun X F r => ?_)
  refine g_aload_n (pc := 0) F dX1_empty_0 rfl ?_
  refine g_iconst (pc := 1) (v := 0) F dX1_empty_1 (by decide) ?_
  refine g_puti (pc := 2) F fl_X1_7 rfl rfl (by assumption) rfl dX1_empty_2 ?_
  refine g_aload_n (pc := 5) F dX1_empty_5 rfl ?_
  refine g_iconst (pc := 6) (v := 0) F dX1_empty_6 (by decide) ?_
  refine g_puti (pc := 7) F fl_X1_13 rfl rfl (by assumption) rfl dX1_empty_7 ?_
  refine g_aload_n (pc := 10) F dX1_empty_10 rfl ?_
  refine g_iconst (pc := 11) (v := 0) F dX1_empty_11 (by decide) ?_
  refine g_puti (pc := 12) F fl_X1_16 rfl rfl (by assumption) rfl dX1_empty_12 ?_
  refine g_aload_n (pc := 15) F dX1_empty_15 rfl ?_
  refine g_iconst (pc := 16) (v := 0) F dX1_empty_16 (by decide) ?_
  refine g_puti (pc := 17) F fl_X1_19 rfl rfl (by assumption) rfl dX1_empty_17 ?_
  refine g_aload_n (pc := 20) F dX1_empty_20 rfl ?_
  refine g_iconst (pc := 21) (v := 0) F dX1_empty_21 (by decide) ?_
  refine g_puti (pc := 22) F fl_X1_22 rfl rfl (by assumption) rfl dX1_empty_22 ?_
  refine g_vret (pc := 25) F r dX1_empty_25 ?_
  refine ⟨rfl, ?_⟩
  simp only [upd2_updr, updr_upd2, updr_self, updr_updr]
  refine congrArg (updr M q) (funext fun j => ?_)
  match j with
  | 0 | 1 | 2 | 3 | 4 => rfl
  | j + 5 => simp [upd, rzero, show ¬ j + 5 < 5 by omega]

set_option maxHeartbeats 4000000 in
set_option maxRecDepth 100000 in
theorem c_X1_add (l : Launch) (g : Gm) (M : Mem) (q : Nat) (hk : kd q = 1) (gp t : Int32) : Cn l yX1_add cX1_add 3 none 0 0 g [.ref (ad g q), .int gp, .int t] M (fun v M2 => v = none ∧ M2 = updr M q (radd (M q) gp t)) := by
  refine Cn.intro (lv0 := [some (.ref (ad g q)), some (.int gp), some (.int t)]) 0 (by decide +kernel) (Nat.le_of_ble_eq_true rfl) rfl (fun X F r => ?_)
  refine g_aload_n (pc := 0) F dX1_add_0 rfl ?_
  refine g_dup (pc := 1) F dX1_add_1 rfl ?_
  refine g_geti (pc := 2) F fl_X1_7 (by assumption) rfl dX1_add_2 ?_
  refine g_iload_n (pc := 5) F dX1_add_5 rfl ?_
  refine g_iadd (pc := 6) F dX1_add_6 ?_
  refine g_puti (pc := 7) F fl_X1_7 rfl rfl (by assumption) rfl dX1_add_7 ?_
  refine g_aload_n (pc := 10) F dX1_add_10 rfl ?_
  refine g_dup (pc := 11) F dX1_add_11 rfl ?_
  refine g_geti (pc := 12) F fl_X1_13 (by assumption) rfl dX1_add_12 ?_
  refine g_iload_n (pc := 15) F dX1_add_15 rfl ?_
  refine g_iload_n (pc := 16) F dX1_add_16 rfl ?_
  refine g_imul (pc := 17) F dX1_add_17 ?_
  refine g_iadd (pc := 18) F dX1_add_18 ?_
  refine g_puti (pc := 19) F fl_X1_13 rfl rfl (by assumption) rfl dX1_add_19 ?_
  refine g_aload_n (pc := 22) F dX1_add_22 rfl ?_
  refine g_dup (pc := 23) F dX1_add_23 rfl ?_
  refine g_geti (pc := 24) F fl_X1_16 (by assumption) rfl dX1_add_24 ?_
  refine g_iload_n (pc := 27) F dX1_add_27 rfl ?_
  refine g_iload_n (pc := 28) F dX1_add_28 rfl ?_
  refine g_imul (pc := 29) F dX1_add_29 ?_
  refine g_iload_n (pc := 30) F dX1_add_30 rfl ?_
  refine g_imul (pc := 31) F dX1_add_31 ?_
  refine g_iadd (pc := 32) F dX1_add_32 ?_
  refine g_puti (pc := 33) F fl_X1_16 rfl rfl (by assumption) rfl dX1_add_33 ?_
  refine g_aload_n (pc := 36) F dX1_add_36 rfl ?_
  refine g_dup (pc := 37) F dX1_add_37 rfl ?_
  refine g_geti (pc := 38) F fl_X1_19 (by assumption) rfl dX1_add_38 ?_
  refine g_iload_n (pc := 41) F dX1_add_41 rfl ?_
  refine g_iload_n (pc := 42) F dX1_add_42 rfl ?_
  refine g_iconst (pc := 43) (v := 1) F dX1_add_43 (by decide) ?_
  refine g_iadd (pc := 44) F dX1_add_44 ?_
  refine g_imul (pc := 45) F dX1_add_45 ?_
  refine g_iconst (pc := 46) (v := 2) F dX1_add_46 (by decide) ?_
  refine g_idiv (pc := 47) F (by decide) dX1_add_47 ?_
  refine g_iload_n (pc := 48) F dX1_add_48 rfl ?_
  refine g_imul (pc := 49) F dX1_add_49 ?_
  refine g_iadd (pc := 50) F dX1_add_50 ?_
  refine g_puti (pc := 51) F fl_X1_19 rfl rfl (by assumption) rfl dX1_add_51 ?_
  refine g_iload_n (pc := 54) F dX1_add_54 rfl ?_
  refine g_aload_n (pc := 55) F dX1_add_55 rfl ?_
  refine g_geti (pc := 56) F fl_X1_22 (by assumption) rfl dX1_add_56 ?_
  refine g_icmp_le (pc := 59) (tgt := 67) F dX1_add_59 (by decide) (fun c59 => ?_) (fun c59 => ?_)
  · refine g_vret (pc := 67) F r dX1_add_67 ?_
    refine ⟨rfl, ?_⟩
    simp only [upd2_updr, updr_upd2, updr_self, updr_updr] at *
    refine congrArg (updr M q) (funext fun j => ?_)
    match j with
    | 0 | 1 | 2 | 3 => rfl
    | 4 => by_cases hz : M q 4 < gp <;> simp_all [upd, radd, updr_get, ← Int32.not_le]
    | j + 5 => simp [upd, radd]
  · refine g_aload_n (pc := 62) F dX1_add_62 rfl ?_
    refine g_iload_n (pc := 63) F dX1_add_63 rfl ?_
    refine g_puti (pc := 64) F fl_X1_22 rfl rfl (by assumption) rfl dX1_add_64 ?_
    refine g_vret (pc := 67) F r dX1_add_67 ?_
    refine ⟨rfl, ?_⟩
    simp only [upd2_updr, updr_upd2, updr_self, updr_updr] at *
    refine congrArg (updr M q) (funext fun j => ?_)
    match j with
    | 0 | 1 | 2 | 3 => rfl
    | 4 => by_cases hz : M q 4 < gp <;> simp_all [upd, radd, updr_get, ← Int32.not_le]
    | j + 5 => simp [upd, radd]

set_option maxHeartbeats 4000000 in
set_option maxRecDepth 100000 in
theorem c_X1_copyFrom (l : Launch) (g : Gm) (M : Mem) (q q2 : Nat) (hk : kd q = 1) (hk2 : kd q2 = 1) (hne : q ≠ q2) : Cn l yX1_copyFrom cX1_copyFrom 2 none 0 0 g [.ref (ad g q), .ref (ad g q2)] M (fun v M2 => v = none ∧ M2 = updr M q (rcopy (M q) (M q2))) := by
  refine Cn.intro (lv0 := [some (.ref (ad g q)), some (.ref (ad g q2))]) 0 (by decide +kernel) (Nat.le_of_ble_eq_true rfl) rfl (fun X F r => ?_)
  refine g_aload_n (pc := 0) F dX1_copyFrom_0 rfl ?_
  refine g_aload_n (pc := 1) F dX1_copyFrom_1 rfl ?_
  refine g_geti (pc := 2) F fl_X1_7 (by assumption) rfl dX1_copyFrom_2 ?_
  refine g_puti (pc := 5) F fl_X1_7 rfl rfl (by assumption) rfl dX1_copyFrom_5 ?_
  refine g_aload_n (pc := 8) F dX1_copyFrom_8 rfl ?_
  refine g_aload_n (pc := 9) F dX1_copyFrom_9 rfl ?_
  refine g_geti (pc := 10) F fl_X1_13 (by assumption) rfl dX1_copyFrom_10 ?_
  refine g_puti (pc := 13) F fl_X1_13 rfl rfl (by assumption) rfl dX1_copyFrom_13 ?_
  refine g_aload_n (pc := 16) F dX1_copyFrom_16 rfl ?_
  refine g_aload_n (pc := 17) F dX1_copyFrom_17 rfl ?_
  refine g_geti (pc := 18) F fl_X1_16 (by assumption) rfl dX1_copyFrom_18 ?_
  refine g_puti (pc := 21) F fl_X1_16 rfl rfl (by assumption) rfl dX1_copyFrom_21 ?_
  refine g_aload_n (pc := 24) F dX1_copyFrom_24 rfl ?_
  refine g_aload_n (pc := 25) F dX1_copyFrom_25 rfl ?_
  refine g_geti (pc := 26) F fl_X1_19 (by assumption) rfl dX1_copyFrom_26 ?_
  refine g_puti (pc := 29) F fl_X1_19 rfl rfl (by assumption) rfl dX1_copyFrom_29 ?_
  refine g_aload_n (pc := 32) F dX1_copyFrom_32 rfl ?_
  refine g_aload_n (pc := 33) F dX1_copyFrom_33 rfl ?_
  refine g_geti (pc := 34) F fl_X1_22 (by assumption) rfl dX1_copyFrom_34 ?_
  refine g_puti (pc := 37) F fl_X1_22 rfl rfl (by assumption) rfl dX1_copyFrom_37 ?_
  refine g_vret (pc := 40) F r dX1_copyFrom_40 ?_
  refine ⟨rfl, ?_⟩
  simp only [upd2_updr, updr_upd2, updr_self, updr_updr, updr_ne _ _ hne.symm]
  refine congrArg (updr M q) (funext fun j => ?_)
  match j with
  | 0 | 1 | 2 | 3 | 4 => rfl
  | j + 5 => simp [upd, rcopy, show ¬ j + 5 < 5 by omega]

/-! Group -/
set_option maxHeartbeats 4000000 in
set_option maxRecDepth 100000 in
theorem c_X2_set (l : Launch) (g : Gm) (M : Mem) (q : Nat) (hk : kd q = 2) (law : Int32) : Cn l yX2_set cX2_set 2 none 0 0 g [.ref (ad g q), .int law] M (fun v M2 => v = none ∧ M2 = updr M q (fun j => if j = 0 then law else if j < 4 then 0 else M q j)) := by
  refine Cn.intro (lv0 := [some (.ref (ad g q)), some (.int law)]) 0 (by decide +kernel) (Nat.le_of_ble_eq_true rfl) rfl (fun X F r => ?_)
  refine g_aload_n (pc := 0) F dX2_set_0 rfl ?_
  refine g_iload_n (pc := 1) F dX2_set_1 rfl ?_
  refine g_puti (pc := 2) F fl_X2_7 rfl rfl (by assumption) rfl dX2_set_2 ?_
  refine g_aload_n (pc := 5) F dX2_set_5 rfl ?_
  refine g_iconst (pc := 6) (v := 0) F dX2_set_6 (by decide) ?_
  refine g_puti (pc := 7) F fl_X2_13 rfl rfl (by assumption) rfl dX2_set_7 ?_
  refine g_aload_n (pc := 10) F dX2_set_10 rfl ?_
  refine g_iconst (pc := 11) (v := 0) F dX2_set_11 (by decide) ?_
  refine g_puti (pc := 12) F fl_X2_16 rfl rfl (by assumption) rfl dX2_set_12 ?_
  refine g_aload_n (pc := 15) F dX2_set_15 rfl ?_
  refine g_iconst (pc := 16) (v := 0) F dX2_set_16 (by decide) ?_
  refine g_puti (pc := 17) F fl_X2_19 rfl rfl (by assumption) rfl dX2_set_17 ?_
  refine g_vret (pc := 20) F r dX2_set_20 ?_
  refine ⟨rfl, ?_⟩
  simp only [upd2_updr, updr_upd2, updr_self, updr_updr]
  refine congrArg (updr M q) (funext fun j => ?_)
  match j with
  | 0 | 1 | 2 | 3 => rfl
  | j + 4 => simp [upd, show ¬ j + 4 < 4 by omega]

set_option maxHeartbeats 4000000 in
set_option maxRecDepth 100000 in
theorem c_X2_copyFrom (l : Launch) (g : Gm) (M : Mem) (q q2 : Nat) (hk : kd q = 2) (hk2 : kd q2 = 2) (hne : q ≠ q2) : Cn l yX2_copyFrom cX2_copyFrom 2 none 0 0 g [.ref (ad g q), .ref (ad g q2)] M (fun v M2 => v = none ∧ M2 = updr M q (fun j => if j < 4 then M q2 j else M q j)) := by
  refine Cn.intro (lv0 := [some (.ref (ad g q)), some (.ref (ad g q2))]) 0 (by decide +kernel) (Nat.le_of_ble_eq_true rfl) rfl (fun X F r => ?_)
  refine g_aload_n (pc := 0) F dX2_copyFrom_0 rfl ?_
  refine g_aload_n (pc := 1) F dX2_copyFrom_1 rfl ?_
  refine g_geti (pc := 2) F fl_X2_7 (by assumption) rfl dX2_copyFrom_2 ?_
  refine g_puti (pc := 5) F fl_X2_7 rfl rfl (by assumption) rfl dX2_copyFrom_5 ?_
  refine g_aload_n (pc := 8) F dX2_copyFrom_8 rfl ?_
  refine g_aload_n (pc := 9) F dX2_copyFrom_9 rfl ?_
  refine g_geti (pc := 10) F fl_X2_13 (by assumption) rfl dX2_copyFrom_10 ?_
  refine g_puti (pc := 13) F fl_X2_13 rfl rfl (by assumption) rfl dX2_copyFrom_13 ?_
  refine g_aload_n (pc := 16) F dX2_copyFrom_16 rfl ?_
  refine g_aload_n (pc := 17) F dX2_copyFrom_17 rfl ?_
  refine g_geti (pc := 18) F fl_X2_16 (by assumption) rfl dX2_copyFrom_18 ?_
  refine g_puti (pc := 21) F fl_X2_16 rfl rfl (by assumption) rfl dX2_copyFrom_21 ?_
  refine g_aload_n (pc := 24) F dX2_copyFrom_24 rfl ?_
  refine g_aload_n (pc := 25) F dX2_copyFrom_25 rfl ?_
  refine g_geti (pc := 26) F fl_X2_19 (by assumption) rfl dX2_copyFrom_26 ?_
  refine g_puti (pc := 29) F fl_X2_19 rfl rfl (by assumption) rfl dX2_copyFrom_29 ?_
  refine g_vret (pc := 32) F r dX2_copyFrom_32 ?_
  refine ⟨rfl, ?_⟩
  simp only [upd2_updr, updr_upd2, updr_self, updr_updr, updr_ne _ _ hne.symm]
  refine congrArg (updr M q) (funext fun j => ?_)
  match j with
  | 0 | 1 | 2 | 3 => rfl
  | j + 4 => simp [upd, show ¬ j + 4 < 4 by omega]

def b2i (b : Prop) [Decidable b] : Int32 := if b then 1 else 0
set_option maxHeartbeats 4000000 in
set_option maxRecDepth 100000 in
theorem c_X2_has (l : Launch) (g : Gm) (M : Mem) (q : Nat) (hk : kd q = 2) (c : Int32) : Cn l yX2_has cX2_has 2 (some .boolean) 0 0 g [.ref (ad g q), .int c] M (fun v M2 => v = some (.int (b2i (¬ M q 1 &&& (1 <<< (c &&& 31)) = 0))) ∧ M2 = M) := by
  refine Cn.intro (lv0 := [some (.ref (ad g q)), some (.int c)]) 0 (by decide +kernel) (Nat.le_of_ble_eq_true rfl) rfl (fun X F r => ?_)
  refine g_aload_n (pc := 0) F dX2_has_0 rfl ?_
  refine g_geti (pc := 1) F fl_X2_13 (by assumption) rfl dX2_has_1 ?_
  refine g_iconst (pc := 4) (v := 1) F dX2_has_4 (by decide) ?_
  refine g_iload_n (pc := 5) F dX2_has_5 rfl ?_
  refine g_ishl (pc := 6) F dX2_has_6 ?_
  refine g_iand (pc := 7) F dX2_has_7 ?_
  refine g_if_eq (pc := 8) (tgt := 15) F dX2_has_8 (by decide) (fun c8 => ?_) (fun c8 => ?_)
  · refine g_iconst (pc := 15) (v := 0) F dX2_has_15 (by decide) ?_
    refine g_zret (pc := 16) F (by decide) r dX2_has_16 ?_
    refine ⟨?_, rfl⟩
    simp_all [b2i]
  · refine g_iconst (pc := 11) (v := 1) F dX2_has_11 (by decide) ?_
    refine g_goto (pc := 12) (tgt := 16) F dX2_has_12 (by decide) ?_
    refine g_zret (pc := 16) F (by decide) r dX2_has_16 ?_
    refine ⟨?_, rfl⟩
    simp_all [b2i]
