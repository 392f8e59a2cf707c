/-! means and what passengers gained: the check -/
def ofF (q la a b c d : Nat) : Nat → Nat := fun k => if q = 0 then 1 else if q = 1 then gN la a b c d k else gN la a b c d k * gN la a b c d k
theorem ofF_0 (la a b c d : Nat) : sN (ofF 0 la a b c d) (NP la b c d) = NP la b c d := (sN_eq _ (fun _ _ => rfl)).trans (Nat.mul_one _)
theorem ofF_1 (la a b c d : Nat) : sN (ofF 1 la a b c d) (NP la b c d) = LSu la a b c d := congrArg (fun f => sN f (NP la b c d)) (funext fun _ => rfl)
theorem ofF_2 (la a b c d : Nat) : sN (ofF 2 la a b c d) (NP la b c d) = LSq la a b c d := congrArg (fun f => sN f (NP la b c d)) (funext fun _ => rfl)
theorem dcmp_self {x : UInt64} (h : FP.Core.val64 x ≠ .nan) : Op.cmpValue (FP.dcmp x x) .l = 0 := by
  rw [show FP.dcmp x x = some .eq from (FP.Core.dcmp_eq_key h h).mpr rfl]
  rfl
set_option maxHeartbeats 4000000 in
set_option maxRecDepth 100000 in
theorem c_Jxe99ae_isNaN_b9ae7 (l : Launch) (g : Gm) (M : Mem) (x : UInt64) (hx : FP.Core.val64 x ≠ .nan) : Cn l yJxe99ae_isNaN_b9ae7 cJxe99ae_isNaN_b9ae7 2 (some .boolean) 0 0 g [.double x] M (fun v M2 => v = some (.int 0) ∧ M2 = M) := by
  refine Cn.intro (lv0 := [some (.double x), none]) 0 (by decide +kernel) (Nat.le_of_ble_eq_true rfl) rfl (fun X F r => ?_)
  refine g_dload_n (pc := 0) F dJxe99ae_isNaN_b9ae7_0 rfl ?_
  refine g_dload_n (pc := 1) F dJxe99ae_isNaN_b9ae7_1 rfl ?_
  refine g_dcmp (pc := 2) F dJxe99ae_isNaN_b9ae7_2 ?_
  refine g_if_eq (pc := 3) (tgt := 10) F dJxe99ae_isNaN_b9ae7_3 (by decide) (fun c3 => ?_) (fun c3 => ?_)
  · refine g_iconst (pc := 10) (v := 0) F dJxe99ae_isNaN_b9ae7_10 (by decide) ?_
    refine g_zret (pc := 11) F (by decide) r dJxe99ae_isNaN_b9ae7_11 ?_
    exact ⟨rfl, rfl⟩
  · exact absurd (dcmp_self hx) c3

set_option maxHeartbeats 4000000 in
set_option maxRecDepth 100000 in
theorem c_Jxe99ae_doubleToLongBits_ccdee (l : Launch) (g : Gm) (M : Mem) (x : UInt64) (hx : FP.Core.val64 x ≠ .nan) : Cn l yJxe99ae_doubleToLongBits_ccdee cJxe99ae_doubleToLongBits_ccdee 2 (some .long) 1 21 g [.double x] M (fun v M2 => v = some (.long x.toInt64) ∧ M2 = M) := by
  refine Cn.intro (lv0 := [some (.double x), none]) 0 (by decide +kernel) (Nat.le_of_ble_eq_true rfl) rfl (fun X F r => ?_)
  refine g_dload_n (pc := 0) F dJxe99ae_doubleToLongBits_ccdee_0 rfl ?_
  refine g_callS (pc := 1) (rf2 := 0) (rl2 := 0) F cs_Jxe99ae_122 (by rfl) (by rfl) (Nat.le_of_ble_eq_true (by rfl)) (by decide) dJxe99ae_doubleToLongBits_ccdee_1 (c_Jxe99ae_isNaN_b9ae7 _ g _ x hx) (fun v M2 hz => ?_)
  obtain ⟨rfl, h2⟩ := hz
  rw [h2]
  refine g_if_ne (pc := 4) (tgt := 12) F dJxe99ae_doubleToLongBits_ccdee_4 (by decide) (fun c4 => ?_) (fun c4 => ?_)
  · exact absurd rfl c4
  · refine g_dload_n (pc := 7) F dJxe99ae_doubleToLongBits_ccdee_7 rfl ?_
    refine g_d2raw (pc := 8) F ⟨wl_Jxe99ae_134, wn_d2raw, wt_d2raw, wz_Jxe99ae⟩ (by decide) (by decide) dJxe99ae_doubleToLongBits_ccdee_8 ?_
    refine g_lret (pc := 11) F r dJxe99ae_doubleToLongBits_ccdee_11 ?_
    exact ⟨rfl, rfl⟩

set_option maxHeartbeats 4000000 in
set_option maxRecDepth 100000 in
theorem c_X8_ofLaw (l : Launch) (g : Gm) (M : Mem) (i : Nat) (hi6 : i < 6) (la a b c d : Nat) (hL : LI (cw (M 225) i) la a b c d) (q : Nat) (hq : q < 3) : Cn l yX8_ofLaw cX8_ofLaw 6 (some .int) 2 45 g [.ref (ad g 224), .int (nI i), .int (nI q)] M (fun v M2 => v = some (.int (nI (sN (ofF q la a b c d) (NP la b c d)))) ∧ M2 = M) := by
  refine Cn.intro (lv0 := [some (.ref (ad g 224)), some (.int (nI i)), some (.int (nI q)), none, none, none]) 3 (by decide +kernel) (Nat.le_of_ble_eq_true rfl) rfl (fun X F r => ?_)
  have k224 := kd224
  have k225 := kd225
  have hP := NP_bound (la := la) (b := b) (c := c) (d := d) (hL.2.2.2.2.2.2.2.2.1)
  have hp : ∀ j, j < NP la b c d → (cw (M 225) i 0 = 2 ∨ ∃ k, k < 4 ∧ nI j = nI k) := by
    intro j hj
    by_cases hl : la = 2
    · exact Or.inl ((LI_law2 hL).mpr hl)
    · have := NP4 (b := b) (c := c) (d := d) hl
      exact Or.inr ⟨j, by omega, rfl⟩
  have L : ∀ (n j : Nat) (y : Int32) (w5 : Option Value), j + n = NP la b c d → y = nI j → G X g 6 M 5 [some (.ref (ad g 224)), some (.int (nI i)), some (.int (nI q)), some (.int (nI (sN (ofF q la a b c d) j))), some (.int y), w5] [] := by
    intro n
    induction n with
    | zero =>
      intro j y w5 hjn hy
      obtain rfl : j = NP la b c d := by omega
      refine g_iload (pc := 5) F dX8_ofLaw_5 rfl ?_
      refine g_aload_n (pc := 7) F dX8_ofLaw_7 rfl ?_
      refine g_iload_n (pc := 8) F dX8_ofLaw_8 rfl ?_
      refine g_callV (pc := 9) (rf2 := 1) (rl2 := 22) F cs_X8_40 k224 rfl (by decide) (by rfl) (by rfl) (Nat.le_of_ble_eq_true (by rfl)) (by decide) dX8_ofLaw_9 (c_X8_places _ g _ i hi6) (fun v M2 hz => ?_)
      obtain ⟨rfl, h2⟩ := hz
      rw [h2]
      rw [LI_places hL]
      refine g_icmp_ge (pc := 12) (tgt := 56) F dX8_ofLaw_12 (by decide) (fun c12 => ?_) (fun c12 => ?_)
      · refine g_iload_n (pc := 56) F dX8_ofLaw_56 rfl ?_
        refine g_iret (pc := 57) F r dX8_ofLaw_57 ?_
        exact ⟨rfl, rfl⟩
      · exact absurd (by rw [hy]; exact nI_le (by omega) (by omega)) c12
    | succ n ih =>
      intro j y w5 hjn hy
      refine g_iload (pc := 5) F dX8_ofLaw_5 rfl ?_
      refine g_aload_n (pc := 7) F dX8_ofLaw_7 rfl ?_
      refine g_iload_n (pc := 8) F dX8_ofLaw_8 rfl ?_
      refine g_callV (pc := 9) (rf2 := 1) (rl2 := 22) F cs_X8_40 k224 rfl (by decide) (by rfl) (by rfl) (Nat.le_of_ble_eq_true (by rfl)) (by decide) dX8_ofLaw_9 (c_X8_places _ g _ i hi6) (fun v M2 hz => ?_)
      obtain ⟨rfl, h2⟩ := hz
      rw [h2]
      rw [LI_places hL]
      refine g_icmp_ge (pc := 12) (tgt := 56) F dX8_ofLaw_12 (by decide) (fun c12 => ?_) (fun c12 => ?_)
      · exact absurd c12 (by rw [hy]; exact nI_ge (by omega) (by omega))
      · refine g_aload_n (pc := 15) F dX8_ofLaw_15 rfl ?_
        refine g_iload_n (pc := 16) F dX8_ofLaw_16 rfl ?_
        refine g_iload (pc := 17) F dX8_ofLaw_17 rfl ?_
        refine g_stk (st' := [.int (nI j), .int (nI i), .ref (ad g 224)]) (by rw [hy]) ?_
        refine g_callV (pc := 19) (rf2 := 1) (rl2 := 22) F cs_X8_51 k224 rfl (by decide) (by rfl) (by rfl) (Nat.le_of_ble_eq_true (by rfl)) (by decide) dX8_ofLaw_19 (c_X8_gapAt _ g _ i hi6 (nI j) (hp j (by omega))) (fun v M2 hz => ?_)
        obtain ⟨rfl, h3⟩ := hz
        rw [h3]
        rw [gN_gapAt hL (by omega)]
        refine g_istore (pc := 22) F dX8_ofLaw_22 (by decide) rfl ?_
        refine g_iload_n (pc := 24) F dX8_ofLaw_24 rfl ?_
        refine g_iload_n (pc := 25) F dX8_ofLaw_25 rfl ?_
        refine g_if_ne (pc := 26) (tgt := 33) F dX8_ofLaw_26 (by decide) (fun c26 => ?_) (fun c26 => ?_)
        · have hq0 : ¬ q = 0 := fun e => c26 (by rw [e]; rfl)
          refine g_iload_n (pc := 33) F dX8_ofLaw_33 rfl ?_
          refine g_iconst (pc := 34) (v := 1) F dX8_ofLaw_34 (by decide) ?_
          refine g_icmp_ne (pc := 35) (tgt := 43) F dX8_ofLaw_35 (by decide) (fun c35 => ?_) (fun c35 => ?_)
          · have hq1 : ¬ q = 1 := fun e => c35 (by rw [e]; rfl)
            refine g_iload (pc := 43) F dX8_ofLaw_43 rfl ?_
            refine g_iload (pc := 45) F dX8_ofLaw_45 rfl ?_
            refine g_imul (pc := 47) F dX8_ofLaw_47 ?_
            refine g_iadd (pc := 48) F dX8_ofLaw_48 ?_
            refine g_istore_n (pc := 49) F dX8_ofLaw_49 (by decide) rfl ?_
            refine g_iinc (pc := 50) F dX8_ofLaw_50 rfl rfl (by decide) rfl ?_
            refine g_goto (pc := 53) (tgt := 5) F dX8_ofLaw_53 (by decide) ?_
            refine G.sub [some (.ref (ad g 224)), some (.int (nI i)), some (.int (nI q)), some (.int (nI (sN (ofF q la a b c d) (j + 1)))), some (.int (y + Int32.ofInt 1)), some (.int (nI (gN la a b c d j)))] ⟨rfl, rfl, rfl, ?_, rfl, rfl, trivial⟩ (ih (j + 1) _ _ (by omega) (by rw [hy]; exact nI_1 j))
            have e : (ofF q la a b c d) j = gN la a b c d j * gN la a b c d j := (if_neg hq0).trans (if_neg hq1)
            show some (Value.int _) = some (Value.int (nI (sN (ofF q la a b c d) j + (ofF q la a b c d) j)))
            rw [e, ← nI_add]
            rw [nI_mul]
          · have hq1 : q = 1 := by
              rw [nI1, nI_inj (by omega) (by decide)] at c35
              exact c35
            refine g_iload (pc := 38) F dX8_ofLaw_38 rfl ?_
            refine g_goto (pc := 40) (tgt := 48) F dX8_ofLaw_40 (by decide) ?_
            refine g_iadd (pc := 48) F dX8_ofLaw_48 ?_
            refine g_istore_n (pc := 49) F dX8_ofLaw_49 (by decide) rfl ?_
            refine g_iinc (pc := 50) F dX8_ofLaw_50 rfl rfl (by decide) rfl ?_
            refine g_goto (pc := 53) (tgt := 5) F dX8_ofLaw_53 (by decide) ?_
            refine G.sub [some (.ref (ad g 224)), some (.int (nI i)), some (.int (nI q)), some (.int (nI (sN (ofF q la a b c d) (j + 1)))), some (.int (y + Int32.ofInt 1)), some (.int (nI (gN la a b c d j)))] ⟨rfl, rfl, rfl, ?_, rfl, rfl, trivial⟩ (ih (j + 1) _ _ (by omega) (by rw [hy]; exact nI_1 j))
            have e : (ofF q la a b c d) j = gN la a b c d j := (if_neg hq0).trans (if_pos hq1)
            show some (Value.int _) = some (Value.int (nI (sN (ofF q la a b c d) j + (ofF q la a b c d) j)))
            rw [e, ← nI_add]
        · have hq0 : q = 0 := by
            rw [nI0, nI_inj (by omega) (by decide)] at c26
            exact c26
          refine g_iconst (pc := 29) (v := 1) F dX8_ofLaw_29 (by decide) ?_
          refine g_goto (pc := 30) (tgt := 48) F dX8_ofLaw_30 (by decide) ?_
          refine g_iadd (pc := 48) F dX8_ofLaw_48 ?_
          refine g_istore_n (pc := 49) F dX8_ofLaw_49 (by decide) rfl ?_
          refine g_iinc (pc := 50) F dX8_ofLaw_50 rfl rfl (by decide) rfl ?_
          refine g_goto (pc := 53) (tgt := 5) F dX8_ofLaw_53 (by decide) ?_
          refine G.sub [some (.ref (ad g 224)), some (.int (nI i)), some (.int (nI q)), some (.int (nI (sN (ofF q la a b c d) (j + 1)))), some (.int (y + Int32.ofInt 1)), some (.int (nI (gN la a b c d j)))] ⟨rfl, rfl, rfl, ?_, rfl, rfl, trivial⟩ (ih (j + 1) _ _ (by omega) (by rw [hy]; exact nI_1 j))
          have e : (ofF q la a b c d) j = 1 := if_pos hq0
          show some (Value.int _) = some (Value.int (nI (sN (ofF q la a b c d) j + (ofF q la a b c d) j)))
          rw [e, ← nI_add]
          rfl
  refine g_iconst (pc := 0) (v := 0) F dX8_ofLaw_0 (by decide) ?_
  refine g_istore_n (pc := 1) F dX8_ofLaw_1 (by decide) rfl ?_
  refine g_iconst (pc := 2) (v := 0) F dX8_ofLaw_2 (by decide) ?_
  refine g_istore (pc := 3) F dX8_ofLaw_3 (by decide) rfl ?_
  exact L (NP la b c d) 0 _ _ (by omega) nI0

set_option maxHeartbeats 4000000 in
set_option maxRecDepth 100000 in
theorem c_X8_meanOf (l : Launch) (g : Gm) (M : Mem) (k many sum sq : Int32) (hm : 0 < many) (hs : 0 < sum) : Cn l yX8_meanOf cX8_meanOf 4 (some .double) 0 0 g [.int k, .int many, .int sum, .int sq] M (fun v M2 => v = some (.double (meanF k many sum sq ((sq + sum) / 2))) ∧ M2 = M) := by
  refine Cn.intro (lv0 := [some (.int k), some (.int many), some (.int sum), some (.int sq)]) 0 (by decide +kernel) (Nat.le_of_ble_eq_true rfl) rfl (fun X F r => ?_)
  refine g_iload_n (pc := 0) F dX8_meanOf_0 rfl ?_
  refine g_if_ne (pc := 1) (tgt := 10) F dX8_meanOf_1 (by decide) (fun c1 => ?_) (fun c1 => ?_)
  · refine g_iload_n (pc := 10) F dX8_meanOf_10 rfl ?_
    refine g_iconst (pc := 11) (v := 1) F dX8_meanOf_11 (by decide) ?_
    refine g_icmp_ne (pc := 12) (tgt := 19) F dX8_meanOf_12 (by decide) (fun c12 => ?_) (fun c12 => ?_)
    · refine g_iload_n (pc := 19) F dX8_meanOf_19 rfl ?_
      refine g_iload_n (pc := 20) F dX8_meanOf_20 rfl ?_
      refine g_iadd (pc := 21) F dX8_meanOf_21 ?_
      refine g_iconst (pc := 22) (v := 2) F dX8_meanOf_22 (by decide) ?_
      refine g_idiv (pc := 23) F (by decide) dX8_meanOf_23 ?_
      refine g_i2d (pc := 24) F dX8_meanOf_24 ?_
      refine g_iload_n (pc := 25) F dX8_meanOf_25 rfl ?_
      refine g_i2d (pc := 26) F dX8_meanOf_26 ?_
      refine g_ddiv (pc := 27) F (meanF_ok1 hs) dX8_meanOf_27 ?_
      refine g_dret (pc := 28) F r dX8_meanOf_28 ?_
      unfold meanF
      rw [if_neg c1, if_neg c12]
      exact ⟨rfl, rfl⟩
    · refine g_iload_n (pc := 15) F dX8_meanOf_15 rfl ?_
      refine g_goto (pc := 16) (tgt := 24) F dX8_meanOf_16 (by decide) ?_
      refine g_i2d (pc := 24) F dX8_meanOf_24 ?_
      refine g_iload_n (pc := 25) F dX8_meanOf_25 rfl ?_
      refine g_i2d (pc := 26) F dX8_meanOf_26 ?_
      refine g_ddiv (pc := 27) F (meanF_ok1 hs) dX8_meanOf_27 ?_
      refine g_dret (pc := 28) F r dX8_meanOf_28 ?_
      unfold meanF
      rw [if_neg c1, if_pos c12]
      exact ⟨rfl, rfl⟩
  · refine g_iload_n (pc := 4) F dX8_meanOf_4 rfl ?_
    refine g_i2d (pc := 5) F dX8_meanOf_5 ?_
    refine g_iload_n (pc := 6) F dX8_meanOf_6 rfl ?_
    refine g_i2d (pc := 7) F dX8_meanOf_7 ?_
    refine g_ddiv (pc := 8) F (meanF_ok1 hm) dX8_meanOf_8 ?_
    refine g_dret (pc := 9) F r dX8_meanOf_9 ?_
    unfold meanF
    rw [if_pos c1]
    exact ⟨rfl, rfl⟩

set_option maxHeartbeats 4000000 in
set_option maxRecDepth 100000 in
theorem c_X8_lawMean (l : Launch) (g : Gm) (M : Mem) (i : Nat) (hi6 : i < 6) (la a b c d : Nat) (hL : LI (cw (M 225) i) la a b c d) (k : Int32) : Cn l yX8_lawMean cX8_lawMean 3 (some .double) 3 70 g [.ref (ad g 224), .int (nI i), .int k] M (fun v M2 => v = some (.double (lawF (cw (M 225) i) k)) ∧ M2 = M) := by
  refine Cn.intro (lv0 := [some (.ref (ad g 224)), some (.int (nI i)), some (.int k)]) 0 (by decide +kernel) (Nat.le_of_ble_eq_true rfl) rfl (fun X F r => ?_)
  have k224 := kd224
  have k225 := kd225
  have hP := NP_bound (la := la) (b := b) (c := c) (d := d) (hL.2.2.2.2.2.2.2.2.1)
  have hS := LSu_rng hL
  refine g_iload_n (pc := 0) F dX8_lawMean_0 rfl ?_
  refine g_aload_n (pc := 1) F dX8_lawMean_1 rfl ?_
  refine g_iload_n (pc := 2) F dX8_lawMean_2 rfl ?_
  refine g_iconst (pc := 3) (v := 0) F dX8_lawMean_3 (by decide) ?_
  refine g_stk (st' := [.int (nI 0), .int (nI i), .ref (ad g 224), .int k]) rfl ?_
  refine g_callV (pc := 4) (rf2 := 2) (rl2 := 45) F cs_X8_110 k224 rfl (by decide) (by rfl) (by rfl) (Nat.le_of_ble_eq_true (by rfl)) (by decide) dX8_lawMean_4 (c_X8_ofLaw _ g _ i hi6 la a b c d hL 0 (by decide)) (fun v M2 hz => ?_)
  obtain ⟨rfl, h2⟩ := hz
  rw [h2]
  rw [ofF_0]
  refine g_aload_n (pc := 7) F dX8_lawMean_7 rfl ?_
  refine g_iload_n (pc := 8) F dX8_lawMean_8 rfl ?_
  refine g_iconst (pc := 9) (v := 1) F dX8_lawMean_9 (by decide) ?_
  refine g_stk (st' := [.int (nI 1), .int (nI i), .ref (ad g 224), .int (nI (NP la b c d)), .int k]) rfl ?_
  refine g_callV (pc := 10) (rf2 := 2) (rl2 := 45) F cs_X8_110 k224 rfl (by decide) (by rfl) (by rfl) (Nat.le_of_ble_eq_true (by rfl)) (by decide) dX8_lawMean_10 (c_X8_ofLaw _ g _ i hi6 la a b c d hL 1 (by decide)) (fun v M2 hz => ?_)
  obtain ⟨rfl, h2⟩ := hz
  rw [h2]
  rw [ofF_1]
  refine g_aload_n (pc := 13) F dX8_lawMean_13 rfl ?_
  refine g_iload_n (pc := 14) F dX8_lawMean_14 rfl ?_
  refine g_iconst (pc := 15) (v := 2) F dX8_lawMean_15 (by decide) ?_
  refine g_stk (st' := [.int (nI 2), .int (nI i), .ref (ad g 224), .int (nI (LSu la a b c d)), .int (nI (NP la b c d)), .int k]) rfl ?_
  refine g_callV (pc := 16) (rf2 := 2) (rl2 := 45) F cs_X8_110 k224 rfl (by decide) (by rfl) (by rfl) (Nat.le_of_ble_eq_true (by rfl)) (by decide) dX8_lawMean_16 (c_X8_ofLaw _ g _ i hi6 la a b c d hL 2 (by decide)) (fun v M2 hz => ?_)
  obtain ⟨rfl, h2⟩ := hz
  rw [h2]
  rw [ofF_2]
  refine g_callS (pc := 19) (rf2 := 0) (rl2 := 0) F cs_X8_113 (by rfl) (by rfl) (Nat.le_of_ble_eq_true (by rfl)) (by decide) dX8_lawMean_19 (c_X8_meanOf _ g _ k (nI (NP la b c d)) (nI (LSu la a b c d)) (nI (LSq la a b c d)) ((nI_lt0 (by omega)).mpr (by omega)) ((nI_lt0 (by omega)).mpr (by omega))) (fun v M2 hz => ?_)
  obtain ⟨rfl, h3⟩ := hz
  rw [h3]
  refine g_dret (pc := 22) F r dX8_lawMean_22 ?_
  obtain ⟨r1, r2, r3⟩ := rnd_sums hL
  unfold lawF
  rw [rnd_0 hL, r1, r2, r3, nI_add, nI2, idiv_nI (by omega) (by decide) (by decide)]
  exact ⟨rfl, rfl⟩

set_option maxHeartbeats 4000000 in
set_option maxRecDepth 100000 in
theorem c_X8_mean (l : Launch) (g : Gm) (M : Mem) (t : Nat) (hi : Inv (M 225) t) (x k : Int32) : Cn l yX8_mean cX8_mean 3 (some .long) 4 92 g [.ref (ad g 224), .int x, .int k] M (fun v M2 => v = some (.long (oMean (M 225) x k)) ∧ M2 = M) := by
  refine Cn.intro (lv0 := [some (.ref (ad g 224)), some (.int x), some (.int k)]) 0 (by decide +kernel) (Nat.le_of_ble_eq_true rfl) rfl (fun X F r => ?_)
  have k224 := kd224
  have k225 := kd225
  have hn := hi.cn_le
  have hm := hi.gn_le
  refine g_aload_n (pc := 0) F dX8_mean_0 rfl ?_
  refine g_iload_n (pc := 1) F dX8_mean_1 rfl ?_
  refine g_callV (pc := 2) (rf2 := 0) (rl2 := 0) F cs_X8_93 k224 rfl (by decide) (by rfl) (by rfl) (Nat.le_of_ble_eq_true (by rfl)) (by decide) dX8_mean_2 (c_X8_isClock _ g _ x) (fun v M2 hz => ?_)
  obtain ⟨rfl, h2⟩ := hz
  rw [h2]
  refine g_if_eq (pc := 5) (tgt := 17) F dX8_mean_5 (by decide) (fun c5 => ?_) (fun c5 => ?_)
  · skip
    refine g_ldc2 (pc := 17) F wk_X8_117 dX8_mean_17 ?_
    refine g_lret (pc := 20) F r dX8_mean_20 ?_
    have e : oMean (M 225) x k = -1000001 := if_neg (fun q => b2i_0 c5 q.1)
    rw [e]
    exact ⟨rfl, rfl⟩
  · obtain ⟨i, hin, hx⟩ := inC_ex hi (b2i_1 c5)
    have hCI := hi.2.2.2.2.2.1 i hin
    obtain ⟨la, a, b, c, d, p, gp, ag, sm, sq, hL, -⟩ := id hCI
    refine g_iload_n (pc := 8) F dX8_mean_8 rfl ?_
    refine g_iconst (pc := 9) (v := 0) F dX8_mean_9 (by decide) ?_
    refine g_iconst (pc := 10) (v := 5) F dX8_mean_10 (by decide) ?_
    refine g_callS (pc := 11) (rf2 := 0) (rl2 := 0) F cs_X8_80 (by rfl) (by rfl) (Nat.le_of_ble_eq_true (by rfl)) (by decide) dX8_mean_11 (c_X8_in _ g _ k 0 5) (fun v M2 hz => ?_)
    obtain ⟨rfl, h2⟩ := hz
    rw [h2]
    refine g_if_ne (pc := 14) (tgt := 21) F dX8_mean_14 (by decide) (fun c14 => ?_) (fun c14 => ?_)
    · refine g_iload_n (pc := 21) F dX8_mean_21 rfl ?_
      refine g_iconst (pc := 22) (v := 2) F dX8_mean_22 (by decide) ?_
      refine g_icmp_le (pc := 23) (tgt := 38) F dX8_mean_23 (by decide) (fun c23 => ?_) (fun c23 => ?_)
      · refine g_aload_n (pc := 38) F dX8_mean_38 rfl ?_
        refine g_iload_n (pc := 39) F dX8_mean_39 rfl ?_
        refine g_bipush (pc := 40) (v := 8) F dX8_mean_40 (by decide) ?_
        refine g_stk (st' := [.int (nI 8), .int (nI i), .ref (ad g 224)]) (by rw [hx] <;> rfl) ?_
        refine g_callV (pc := 42) (rf2 := 0) (rl2 := 0) F cs_X8_36 k224 rfl (by decide) (by rfl) (by rfl) (Nat.le_of_ble_eq_true (by rfl)) (by decide) dX8_mean_42 (c_X8_of _ g _ i (by omega) 8 (by decide)) (fun v M2 hz => ?_)
        obtain ⟨rfl, h2⟩ := hz
        rw [h2]
        refine g_if_ne (pc := 45) (tgt := 54) F dX8_mean_45 (by decide) (fun c45 => ?_) (fun c45 => ?_)
        · have c45' : ¬ cw (M 225) i 8 = 0 := c45
          obtain ⟨tn1, tn2, tn3⟩ := told_nd hCI hi.2.2.2.1 c45' k
          refine g_iload_n (pc := 54) F dX8_mean_54 rfl ?_
          refine g_aload_n (pc := 55) F dX8_mean_55 rfl ?_
          refine g_iload_n (pc := 56) F dX8_mean_56 rfl ?_
          refine g_bipush (pc := 57) (v := 8) F dX8_mean_57 (by decide) ?_
          refine g_stk (st' := [.int (nI 8), .int (nI i), .ref (ad g 224), .int k]) (by rw [hx] <;> rfl) ?_
          refine g_callV (pc := 59) (rf2 := 0) (rl2 := 0) F cs_X8_36 k224 rfl (by decide) (by rfl) (by rfl) (Nat.le_of_ble_eq_true (by rfl)) (by decide) dX8_mean_59 (c_X8_of _ g _ i (by omega) 8 (by decide)) (fun v M2 hz => ?_)
          obtain ⟨rfl, h2⟩ := hz
          rw [h2]
          refine g_aload_n (pc := 62) F dX8_mean_62 rfl ?_
          refine g_iload_n (pc := 63) F dX8_mean_63 rfl ?_
          refine g_bipush (pc := 64) (v := 9) F dX8_mean_64 (by decide) ?_
          refine g_stk (st' := [.int (nI 9), .int (nI i), .ref (ad g 224), .int (M 225 (4 + 15 * i + 8)), .int k]) (by rw [hx] <;> rfl) ?_
          refine g_callV (pc := 66) (rf2 := 0) (rl2 := 0) F cs_X8_36 k224 rfl (by decide) (by rfl) (by rfl) (Nat.le_of_ble_eq_true (by rfl)) (by decide) dX8_mean_66 (c_X8_of _ g _ i (by omega) 9 (by decide)) (fun v M2 hz => ?_)
          obtain ⟨rfl, h2⟩ := hz
          rw [h2]
          refine g_aload_n (pc := 69) F dX8_mean_69 rfl ?_
          refine g_iload_n (pc := 70) F dX8_mean_70 rfl ?_
          refine g_bipush (pc := 71) (v := 10) F dX8_mean_71 (by decide) ?_
          refine g_stk (st' := [.int (nI 10), .int (nI i), .ref (ad g 224), .int (M 225 (4 + 15 * i + 9)), .int (M 225 (4 + 15 * i + 8)), .int k]) (by rw [hx] <;> rfl) ?_
          refine g_callV (pc := 73) (rf2 := 0) (rl2 := 0) F cs_X8_36 k224 rfl (by decide) (by rfl) (by rfl) (Nat.le_of_ble_eq_true (by rfl)) (by decide) dX8_mean_73 (c_X8_of _ g _ i (by omega) 10 (by decide)) (fun v M2 hz => ?_)
          obtain ⟨rfl, h2⟩ := hz
          rw [h2]
          refine g_callS (pc := 76) (rf2 := 0) (rl2 := 0) F cs_X8_113 (by rfl) (by rfl) (Nat.le_of_ble_eq_true (by rfl)) (by decide) dX8_mean_76 (c_X8_meanOf _ g _ k (cw (M 225) i 8) (cw (M 225) i 9) (cw (M 225) i 10) tn2 tn3) (fun v M2 hz => ?_)
          obtain ⟨rfl, h3⟩ := hz
          rw [h3]
          refine g_callS (pc := 79) (rf2 := 1) (rl2 := 21) F cs_X8_123 (by rfl) (by rfl) (Nat.le_of_ble_eq_true (by rfl)) (by decide) dX8_mean_79 (c_Jxe99ae_doubleToLongBits_ccdee _ g _ _ tn1.ne) (fun v M2 hz => ?_)
          obtain ⟨rfl, h9⟩ := hz
          rw [h9]
          refine g_lret (pc := 82) F r dX8_mean_82 ?_
          have h3 : ¬ 3 ≤ k := by
            intro e
            have a0 := Int32.le_iff_toInt_le.mp e
            have a1 := Int32.le_iff_toInt_le.mp c23
            have e2 : (2 : Int32).toInt = 2 := rfl
            have e3 : (3 : Int32).toInt = 3 := rfl
            omega
          have e : oMean (M 225) x k = (meanF k (cw (M 225) i 8) (cw (M 225) i 9) (cw (M 225) i 10) ((cw (M 225) i 10 + cw (M 225) i 9) / 2)).toInt64 := by
            unfold oMean
            rw [if_pos ⟨b2i_1 c5, b2i_1 c14⟩, if_neg h3, hx, ixN_nI (by omega), if_neg c45']
          rw [e]
          exact ⟨rfl, rfl⟩
        · have c45' : cw (M 225) i 8 = 0 := c45
          refine g_ldc2 (pc := 48) F wk_X8_129 dX8_mean_48 ?_
          refine g_goto (pc := 51) (tgt := 82) F dX8_mean_51 (by decide) ?_
          refine g_lret (pc := 82) F r dX8_mean_82 ?_
          have h3 : ¬ 3 ≤ k := by
            intro e
            have a0 := Int32.le_iff_toInt_le.mp e
            have a1 := Int32.le_iff_toInt_le.mp c23
            have e2 : (2 : Int32).toInt = 2 := rfl
            have e3 : (3 : Int32).toInt = 3 := rfl
            omega
          have e : oMean (M 225) x k = -1000004 := by
            unfold oMean
            rw [if_pos ⟨b2i_1 c5, b2i_1 c14⟩, if_neg h3, hx, ixN_nI (by omega), if_pos c45']
          rw [e]
          exact ⟨rfl, rfl⟩
      · refine g_aload_n (pc := 26) F dX8_mean_26 rfl ?_
        refine g_iload_n (pc := 27) F dX8_mean_27 rfl ?_
        refine g_iload_n (pc := 28) F dX8_mean_28 rfl ?_
        refine g_iconst (pc := 29) (v := 3) F dX8_mean_29 (by decide) ?_
        refine g_isub (pc := 30) F dX8_mean_30 ?_
        refine g_stk (st' := [.int (k - 3), .int (nI i), .ref (ad g 224)]) (by rw [hx] <;> rfl) ?_
        refine g_callV (pc := 31) (rf2 := 3) (rl2 := 70) F cs_X8_119 k224 rfl (by decide) (by rfl) (by rfl) (Nat.le_of_ble_eq_true (by rfl)) (by decide) dX8_mean_31 (c_X8_lawMean _ g _ i (by omega) la a b c d hL (k - 3)) (fun v M2 hz => ?_)
        obtain ⟨rfl, h3⟩ := hz
        rw [h3]
        refine g_callS (pc := 34) (rf2 := 1) (rl2 := 21) F cs_X8_123 (by rfl) (by rfl) (Nat.le_of_ble_eq_true (by rfl)) (by decide) dX8_mean_34 (c_Jxe99ae_doubleToLongBits_ccdee _ g _ _ (law_nd hCI _).ne) (fun v M2 hz => ?_)
        obtain ⟨rfl, h9⟩ := hz
        rw [h9]
        refine g_lret (pc := 37) F r dX8_mean_37 ?_
        have h3 : 3 ≤ k := by
          have a1 := Int32.lt_iff_toInt_lt.mp (Int32.not_le.mp c23)
          have e2 : (2 : Int32).toInt = 2 := rfl
          have e3 : (3 : Int32).toInt = 3 := rfl
          apply Int32.le_iff_toInt_le.mpr
          omega
        have e : oMean (M 225) x k = (lawF (cw (M 225) i) (k - 3)).toInt64 := by
          unfold oMean
          rw [if_pos ⟨b2i_1 c5, b2i_1 c14⟩, if_pos h3, hx, ixN_nI (by omega)]
        rw [e]
        exact ⟨rfl, rfl⟩
    · refine g_ldc2 (pc := 17) F wk_X8_117 dX8_mean_17 ?_
      refine g_lret (pc := 20) F r dX8_mean_20 ?_
      have e : oMean (M 225) x k = -1000001 := if_neg (fun q => b2i_0 c14 q.2)
      rw [e]
      exact ⟨rfl, rfl⟩

set_option maxHeartbeats 4000000 in
set_option maxRecDepth 100000 in
theorem c_X8_longer (l : Launch) (g : Gm) (M : Mem) (t : Nat) (hi : Inv (M 225) t) : Cn l yX8_longer cX8_longer 4 (some .long) 4 92 g [.ref (ad g 224)] M (fun v M2 => v = some (.long (oLonger (M 225))) ∧ M2 = M) := by
  refine Cn.intro (lv0 := [some (.ref (ad g 224)), none, none, none]) 3 (by decide +kernel) (Nat.le_of_ble_eq_true rfl) rfl (fun X F r => ?_)
  have k224 := kd224
  have k225 := kd225
  have hn := hi.cn_le
  have hm := hi.gn_le
  have L : ∀ (n i : Nat) (y : Int32), i + n = cn (M 225) → y = nI i → G X g 4 M 4 [some (.ref (ad g 224)), some (.double (dueF (M 225) i)), none, some (.int y)] [] := by
    intro n
    induction n with
    | zero =>
      intro i y hin hy
      obtain rfl : i = cn (M 225) := by omega
      refine g_iload_n (pc := 4) F dX8_longer_4 rfl ?_
      refine g_aload_n (pc := 5) F dX8_longer_5 rfl ?_
      refine g_getr (pc := 6) F fl_X8_7 (by assumption) rfl dX8_longer_6 ?_
      refine g_iconst (pc := 9) (v := 0) F dX8_longer_9 (by decide) ?_
      refine g_iald (pc := 10) (q := 0) F k225 rfl (by decide) (by decide) dX8_longer_10 ?_
      refine g_icmp_ge (pc := 11) (tgt := 38) F dX8_longer_11 (by decide) (fun c11 => ?_) (fun c11 => ?_)
      · refine g_aload_n (pc := 38) F dX8_longer_38 rfl ?_
        refine g_bipush (pc := 39) (v := 13) F dX8_longer_39 (by decide) ?_
        refine g_stk (st' := [.int (nI 13), .ref (ad g 224)]) rfl ?_
        refine g_callV (pc := 41) (rf2 := 1) (rl2 := 22) F cs_X8_74 k224 rfl (by decide) (by rfl) (by rfl) (Nat.le_of_ble_eq_true (by rfl)) (by decide) dX8_longer_41 (c_X8_sum _ g _ t hi 13 (by decide)) (fun v M2 hz => ?_)
        obtain ⟨rfl, h2⟩ := hz
        rw [h2]
        rw [← sumW_M (S := M 225) (q := 12) (q' := 13) (fun _ => rfl) (cn (M 225)) hn.1]
        refine g_i2d (pc := 44) F dX8_longer_44 ?_
        refine g_dload_n (pc := 45) F dX8_longer_45 rfl ?_
        refine g_dsub (pc := 46) F (n64_of (lng_nd hi).ne) dX8_longer_46 ?_
        refine g_callS (pc := 47) (rf2 := 1) (rl2 := 21) F cs_X8_123 (by rfl) (by rfl) (Nat.le_of_ble_eq_true (by rfl)) (by decide) dX8_longer_47 (c_Jxe99ae_doubleToLongBits_ccdee _ g _ _ (lng_nd hi).ne) (fun v M2 hz => ?_)
        obtain ⟨rfl, h9⟩ := hz
        rw [h9]
        refine g_lret (pc := 50) F r dX8_longer_50 ?_
        exact ⟨rfl, rfl⟩
      · exact absurd (by rw [hn.2, hy]; exact nI_le (by omega) (by omega)) c11
    | succ n ih =>
      intro i y hin hy
      refine g_iload_n (pc := 4) F dX8_longer_4 rfl ?_
      refine g_aload_n (pc := 5) F dX8_longer_5 rfl ?_
      refine g_getr (pc := 6) F fl_X8_7 (by assumption) rfl dX8_longer_6 ?_
      refine g_iconst (pc := 9) (v := 0) F dX8_longer_9 (by decide) ?_
      refine g_iald (pc := 10) (q := 0) F k225 rfl (by decide) (by decide) dX8_longer_10 ?_
      refine g_icmp_ge (pc := 11) (tgt := 38) F dX8_longer_11 (by decide) (fun c11 => ?_) (fun c11 => ?_)
      · exact absurd c11 (by rw [hn.2, hy]; exact nI_ge (by omega) (by omega))
      · obtain ⟨la, a, b, c, d, p, gp, ag, sm, sq, hL, -⟩ := id (hi.2.2.2.2.2.1 i (by omega))
        refine g_dload_n (pc := 14) F dX8_longer_14 rfl ?_
        refine g_aload_n (pc := 15) F dX8_longer_15 rfl ?_
        refine g_iload_n (pc := 16) F dX8_longer_16 rfl ?_
        refine g_bipush (pc := 17) (v := 12) F dX8_longer_17 (by decide) ?_
        refine g_stk (st' := [.int (nI 12), .int (nI i), .ref (ad g 224), .double (dueF (M 225) i)]) (by rw [hy] <;> rfl) ?_
        refine g_callV (pc := 19) (rf2 := 0) (rl2 := 0) F cs_X8_36 k224 rfl (by decide) (by rfl) (by rfl) (Nat.le_of_ble_eq_true (by rfl)) (by decide) dX8_longer_19 (c_X8_of _ g _ i (by omega) 12 (by decide)) (fun v M2 hz => ?_)
        obtain ⟨rfl, h2⟩ := hz
        rw [h2]
        refine g_i2d (pc := 22) F dX8_longer_22 ?_
        refine g_aload_n (pc := 23) F dX8_longer_23 rfl ?_
        refine g_iload_n (pc := 24) F dX8_longer_24 rfl ?_
        refine g_iconst (pc := 25) (v := 2) F dX8_longer_25 (by decide) ?_
        refine g_stk (st' := [.int 2, .int (nI i), .ref (ad g 224), .double (FP.i2d (cw (M 225) i 12)), .double (dueF (M 225) i)]) (by rw [hy] <;> rfl) ?_
        refine g_callV (pc := 26) (rf2 := 3) (rl2 := 70) F cs_X8_119 k224 rfl (by decide) (by rfl) (by rfl) (Nat.le_of_ble_eq_true (by rfl)) (by decide) dX8_longer_26 (c_X8_lawMean _ g _ i (by omega) la a b c d hL 2) (fun v M2 hz => ?_)
        obtain ⟨rfl, h3⟩ := hz
        rw [h3]
        refine g_dmul (pc := 29) F (n64_of (due_term hi (i := i) (by omega)).ne) dX8_longer_29 ?_
        refine g_dadd (pc := 30) F (n64_of (dueF_nd hi (i + 1) (by omega)).ne) dX8_longer_30 ?_
        refine g_dstore_n (pc := 31) F dX8_longer_31 (by decide) rfl ?_
        refine g_iinc (pc := 32) F dX8_longer_32 rfl rfl (by decide) rfl ?_
        refine g_goto (pc := 35) (tgt := 4) F dX8_longer_35 (by decide) ?_
        refine G.sub [some (.ref (ad g 224)), some (.double (dueF (M 225) (i + 1))), none, some (.int (y + Int32.ofInt 1))] ⟨rfl, rfl, rfl, trivial⟩ (ih (i + 1) _ (by omega) (by rw [hy]; exact nI_1 i))
  refine g_dconst0 (pc := 0) F dX8_longer_0 ?_
  refine g_dstore_n (pc := 1) F dX8_longer_1 (by decide) rfl ?_
  refine g_iconst (pc := 2) (v := 0) F dX8_longer_2 (by decide) ?_
  refine g_istore_n (pc := 3) F dX8_longer_3 (by decide) rfl ?_
  exact L (cn (M 225)) 0 _ (by omega) nI0

