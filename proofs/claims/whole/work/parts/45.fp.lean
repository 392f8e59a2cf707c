/-! doubles -/
/-- a normal double: its sign, its 53 binary digits as a whole number, the exponent of the last one -/
def NR (x : UInt64) (s : Bool) (c : Nat) (q : Int) : Prop := FP.Core.val64 x = .fin s c q ∧ 4503599627370496 ≤ c ∧ c < 9007199254740992 ∧ -1074 ≤ q ∧ q ≤ 971
theorem qmax_b64 : FP.Core.b64.qmax = 971 := by decide
theorem nr_fits {s : Bool} {c : Nat} {q : Int} (h1 : 4503599627370496 ≤ c) (h2 : c < 9007199254740992) (h3 : -1074 ≤ q) (h4 : q ≤ 971) : FP.Core.fits FP.Core.b64 (.fin s c q) :=
  ⟨h2, by rw [FP.Core.qmin_b64]; exact h3, by rw [qmax_b64]; exact h4, Or.inr (by rw [FP.Core.tails_b64]; exact h1)⟩
theorem NR.ne {x : UInt64} {s : Bool} {c : Nat} {q : Int} (h : NR x s c q) : FP.Core.val64 x ≠ .nan := by
  rw [h.1]
  exact FP.Core.Datum.noConfusion
theorem NR.fin {x : UInt64} {s : Bool} {c : Nat} {q : Int} (h : NR x s c q) : FP.Core.DFin x := ⟨s, c, q, h.1⟩
theorem NR.nat {x : UInt64} {s : Bool} {c : Nat} {q : Int} (h : NR x s c q) : x.toNat = (s.toNat * 2048 + (q + 1075).toNat) * 4503599627370496 + (c - 4503599627370496) := by
  have e := FP.Core.of64_val64 h.ne
  obtain ⟨h0, h1, h2, h3, h4⟩ := h
  rw [h0] at e
  rw [← e, FP.Core.toNat_of64 (nr_fits h1 h2 h3 h4)]
  show (if c < FP.Core.b64.tails then _ else _) = _
  rw [FP.Core.tails_b64, if_neg (by omega)]
  show (s.toNat * 2 ^ 11 + ((q - FP.Core.b64.qmin).toNat + 1)) * 2 ^ 52 + (c - 2 ^ 52) = _
  rw [FP.Core.qmin_b64]
  rw [show (q - -1074).toNat + 1 = (q + 1075).toNat by omega]
theorem n64_of {x : UInt64} (h : FP.Core.val64 x ≠ .nan) : x &&& 0x7fffffffffffffff ≤ 0x7ff0000000000000 := by
  rw [UInt64.le_iff_toNat_le, FP.Core.mask_toNat]
  exact (FP.Core.ne_nan x).mp h
theorem n64_ofb {x : UInt64} (h : FP.Core.dIsNaN x = false) : x &&& 0x7fffffffffffffff ≤ 0x7ff0000000000000 := n64_of ((FP.Core.notNaN_iff x).mp h)
/-! how they compare -/
theorem nr_key {x : UInt64} {s : Bool} {c : Nat} {q : Int} (h : NR x s c q) : FP.Core.dkey x = if s then -(((q + 1075).toNat * 4503599627370496 + (c - 4503599627370496) : Nat) : Int) else (((q + 1075).toNat * 4503599627370496 + (c - 4503599627370496) : Nat) : Int) := by
  have hn := h.nat
  obtain ⟨h0, h1, h2, h3, h4⟩ := h
  unfold FP.Core.dkey
  rw [hn]
  cases s
  · simp only [Bool.toNat_false]
    rw [if_neg (by omega)]
    simp
  · simp only [Bool.toNat_true]
    rw [if_pos (by omega)]
    simp only [if_true]
    omega
theorem nr_cmp0 {x : UInt64} {s : Bool} {c : Nat} {q : Int} (h : NR x s c q) : FP.Core.dcmp x 0 = some (if s then .lt else .gt) := by
  have hk := nr_key h
  have hz : FP.Core.val64 0 ≠ .nan := by rw [FP.Core.val64_zero]; exact FP.Core.Datum.noConfusion
  have hz0 : FP.Core.dkey 0 = 0 := rfl
  obtain ⟨h0, h1, h2, h3, h4⟩ := id h
  cases s
  · refine (FP.Core.dcmp_gt_key h.ne hz).mpr ?_
    rw [hk, hz0]
    simp only [Bool.false_eq_true, if_false]
    omega
  · refine (FP.Core.dcmp_lt_key h.ne hz).mpr ?_
    rw [hk, hz0]
    simp only [if_true]
    omega
theorem ne_2 : FP.Core.val64 4611686018427387904 ≠ .nan := by decide +kernel
theorem ne_1 : FP.Core.val64 4607182418800017408 ≠ .nan := by decide +kernel
theorem nr_lt2 {x : UInt64} {c : Nat} {q : Int} (h : NR x false c q) : FP.Core.dcmp x 4611686018427387904 = some .lt ↔ q < -51 := by
  rw [FP.Core.dcmp_lt_key h.ne ne_2, nr_key h]
  obtain ⟨h0, h1, h2, h3, h4⟩ := h
  rw [show FP.Core.dkey 4611686018427387904 = 4611686018427387904 from rfl]
  simp only [Bool.false_eq_true, if_false]
  omega
theorem nr_lt1 {x : UInt64} {c : Nat} {q : Int} (h : NR x false c q) : FP.Core.dcmp x 4607182418800017408 = some .lt ↔ q < -52 := by
  rw [FP.Core.dcmp_lt_key h.ne ne_1, nr_key h]
  obtain ⟨h0, h1, h2, h3, h4⟩ := h
  rw [show FP.Core.dkey 4607182418800017408 = 4607182418800017408 from rfl]
  simp only [Bool.false_eq_true, if_false]
  omega
theorem nr_cmp_some {x y : UInt64} (hx : FP.Core.val64 x ≠ .nan) (hy : FP.Core.val64 y ≠ .nan) : FP.Core.dcmp x y ≠ none := by
  intro h
  rw [FP.Core.dcmp_key hx hy] at h
  cases h
/-- the branches behind a compare -/
theorem cv_lt {o : Option Ordering} (h : o ≠ none) (op : CmpOp) : Op.cmpValue o op < 0 ↔ o = some .lt := by
  cases o with
  | none => exact absurd rfl h
  | some o => cases o <;> cases op <;> decide
theorem cvd1 {x : UInt64} {c : Nat} {q : Int} (h : NR x false c q) (op : CmpOp) : Op.cmpValue (FP.dcmp x FP.dconst1) op < 0 ↔ q < -52 := (cv_lt (nr_cmp_some h.ne ne_1) op).trans (nr_lt1 h)
theorem cvd2 {x : UInt64} {c : Nat} {q : Int} (h : NR x false c q) (op : CmpOp) : Op.cmpValue (FP.dcmp x 4611686018427387904) op < 0 ↔ q < -51 := (cv_lt (nr_cmp_some h.ne ne_2) op).trans (nr_lt2 h)
/-! halves and doubles -/
theorem val_2 : FP.Core.val64 4611686018427387904 = .fin false 4503599627370496 (-51) := by decide +kernel
theorem val_1 : FP.Core.val64 4607182418800017408 = .fin false 4503599627370496 (-52) := by decide +kernel
theorem val_52 : FP.Core.val64 4841369599423283200 = .fin false 4503599627370496 0 := by decide +kernel
theorem nr_half {x : UInt64} {c : Nat} {q : Int} (h : NR x false c q) (hq : -1074 ≤ q - 1) : NR (FP.Core.ddiv x 4611686018427387904) false c (q - 1) := by
  obtain ⟨h0, h1, h2, h3, h4⟩ := h
  refine ⟨?_, h1, h2, hq, by omega⟩
  rw [FP.Core.val64_ddiv, h0, val_2]
  show (if (4503599627370496 : Nat) = 0 then (if c = 0 then FP.Core.Datum.nan else FP.Core.Datum.inf (false != false)) else FP.Core.roundRatio FP.Core.b64 (false != false) c 4503599627370496 (q - -51)) = _
  rw [if_neg (by decide)]
  refine FP.Core.roundRatio_exact FP.Core.good_b64 (by decide) (nr_fits h1 h2 hq (by omega)) ?_
  rw [show (q - -51 - (q - 1)).toNat = 52 by omega, show (q - 1 - (q - -51)).toNat = 0 by omega]
  omega
theorem nr_dbl {x : UInt64} {c : Nat} {q : Int} (h : NR x false c q) (hq : q + 1 ≤ 971) : NR (FP.Core.dmul x 4611686018427387904) false c (q + 1) := by
  obtain ⟨h0, h1, h2, h3, h4⟩ := h
  refine ⟨?_, h1, h2, by omega, hq⟩
  rw [FP.Core.val64_dmul, h0, val_2]
  show FP.Core.roundRatio FP.Core.b64 (false != false) (c * 4503599627370496) 1 (q + -51) = _
  refine FP.Core.roundRatio_exact FP.Core.good_b64 (by decide) (nr_fits h1 h2 (by omega) hq) ?_
  rw [show (q + -51 - (q + 1)).toNat = 0 by omega, show (q + 1 - (q + -51)).toNat = 52 by omega]
  omega
theorem whole_52 {c' T n : Nat} {q' : Int} (h1 : -1074 ≤ q') (hn : n + 52 = 1074) (h : c' * 2 ^ (q' - -1074).toNat = T * 2 ^ n) : c' * 4503599627370496 * 2 ^ (q' + 0).toNat = T * 2 ^ (-(q' + 0)).toNat := by
  rw [Int.add_zero]
  refine Nat.eq_of_mul_eq_mul_right (Nat.two_pow_pos n) ?_
  have e : q'.toNat + (52 + n) = (q' - -1074).toNat + (-q').toNat := by omega
  have e52 : (4503599627370496 : Nat) = 2 ^ 52 := rfl
  have e1 : c' * 4503599627370496 * 2 ^ q'.toNat * 2 ^ n = c' * 2 ^ (q'.toNat + (52 + n)) := by
    rw [e52, Nat.pow_add, Nat.pow_add]
    ac_rfl
  have e2 : c' * 2 ^ ((q' - -1074).toNat + (-q').toNat) = (c' * 2 ^ (q' - -1074).toNat) * 2 ^ (-q').toNat := by
    rw [Nat.pow_add]
    ac_rfl
  rw [e1, e, e2, h]
  ac_rfl
theorem units_sub {c : Nat} (h1 : 4503599627370496 ≤ c) : FP.Core.sumUnits false c (-52) true 4503599627370496 (-52) (min (-52) (-52)) = ((c - 4503599627370496 : Nat) : Int) := by
  unfold FP.Core.sumUnits FP.Core.inUnits FP.Core.signed
  rw [show (-52 - min (-52) (-52) : Int).toNat = 0 from by decide, Nat.pow_zero, Nat.mul_one, Nat.mul_one]
  simp only [Bool.false_eq_true, if_false, if_true]
  omega
theorem sum_sub {c : Nat} (h1 : 4503599627370496 ≤ c) : FP.Core.exactSum (.fin false c (-52)) (FP.Core.negate (.fin false 4503599627370496 (-52))) = .fin false (c - 4503599627370496) (-52) := by
  have es : FP.Core.sumSign false true ((c - 4503599627370496 : Nat) : Int) = false := by
    unfold FP.Core.sumSign
    split
    · rfl
    · exact decide_eq_false (by omega)
  have e : FP.Core.exactSum (.fin false c (-52)) (FP.Core.negate (.fin false 4503599627370496 (-52))) = FP.Core.Datum.fin (FP.Core.sumSign false true (FP.Core.sumUnits false c (-52) true 4503599627370496 (-52) (min (-52) (-52)))) (FP.Core.sumUnits false c (-52) true 4503599627370496 (-52) (min (-52) (-52))).natAbs (min (-52) (-52)) := rfl
  rw [e, units_sub h1, es, Int.natAbs_natCast, show min (-52 : Int) (-52) = -52 from by decide]
theorem frac_sub {x : UInt64} {c : Nat} (h : NR x false c (-52)) : ∃ c' q', FP.Core.val64 (FP.Core.dsub x 4607182418800017408) = .fin false c' q' ∧ FP.Core.inUnits c' q' FP.Core.b64.qmin = FP.Core.inUnits (c - 4503599627370496) (-52) FP.Core.b64.qmin := by
  obtain ⟨h0, h1, h2, h3, h4⟩ := h
  rw [FP.Core.val64_dsub, h0, val_1, sum_sub h1]
  exact FP.Core.round_exact FP.Core.good_b64 false (show c - 4503599627370496 < 9007199254740992 by omega) (by rw [FP.Core.qmin_b64]; decide) (by rw [qmax_b64]; decide)
theorem frac_whole {c' T : Nat} {q' : Int} (hq1 : -1074 ≤ q') (hu : FP.Core.inUnits c' q' FP.Core.b64.qmin = FP.Core.inUnits T (-52) FP.Core.b64.qmin) : FP.Core.Whole (T : Int) (FP.Core.exactProduct (.fin false c' q') (.fin false 4503599627370496 0)) := by
  unfold FP.Core.inUnits at hu
  rw [FP.Core.qmin_b64] at hu
  have hn : (-52 - -1074 : Int).toNat + 52 = 1074 := by decide
  generalize (-52 - -1074 : Int).toNat = n at hu hn
  have hw := whole_52 hq1 hn hu
  show FP.Core.signed false (c' * 4503599627370496 * 2 ^ (q' + 0).toNat) = (T : Int) * ((2 ^ (-(q' + 0)).toNat : Nat) : Int)
  rw [hw]
  exact Int.natCast_mul _ _
theorem nr_frac {x : UInt64} {c : Nat} (h : NR x false c (-52)) : FP.Core.d2l (FP.Core.dmul (FP.Core.dsub x 4607182418800017408) 4841369599423283200) = Int64.ofNat (c - 4503599627370496) ∧ FP.Core.val64 (FP.Core.dsub x 4607182418800017408) ≠ .nan ∧ FP.Core.val64 (FP.Core.dmul (FP.Core.dsub x 4607182418800017408) 4841369599423283200) ≠ .nan := by
  obtain ⟨c', q', hv, hu⟩ := frac_sub h
  obtain ⟨h0, h1, h2, h3, h4⟩ := h
  have hf := FP.Core.val64_fits (FP.Core.dsub x 4607182418800017408)
  rw [hv] at hf
  have hq1 : -1074 ≤ q' := by
    have := hf.2.1
    rw [FP.Core.qmin_b64] at this
    exact this
  have hne : FP.Core.val64 (FP.Core.dsub x 4607182418800017408) ≠ .nan := by
    rw [hv]
    exact FP.Core.Datum.noConfusion
  have hd : FP.Core.DInt ((c - 4503599627370496 : Nat) : Int) (FP.Core.dmul (FP.Core.dsub x 4607182418800017408) 4841369599423283200) := by
    unfold FP.Core.DInt
    rw [FP.Core.val64_dmul, hv, val_52]
    exact FP.Core.whole_round FP.Core.good_b64 FP.Core.wide_b64 (show ((c - 4503599627370496 : Nat) : Int).natAbs ≤ 9007199254740992 by omega) (frac_whole hq1 hu)
  refine ⟨?_, hne, FP.Core.DInt_ne_nan hd⟩
  refine FP.Core.d2l_int (a := Int64.ofNat (c - 4503599627370496)) ?_
  rw [Int64.toInt_ofNat_of_lt (by omega)]
  exact hd
/-! the sign turned -/
theorem xor63 {r : Nat} (h : r < 2 ^ 63) : (2 ^ 63 + r) ^^^ 2 ^ 63 = r := by
  apply Nat.eq_of_testBit_eq
  intro i
  rw [Nat.testBit_xor, Nat.testBit_two_pow]
  by_cases hi : 63 = i
  · subst hi
    rw [Nat.testBit_two_pow_add_eq, Nat.testBit_lt_two_pow h]
    rfl
  · rw [decide_eq_false hi, Bool.xor_false]
    by_cases hl : i < 63
    · exact Nat.testBit_two_pow_add_gt hl r
    · have hi2 : 64 ≤ i := by omega
      rw [Nat.testBit_lt_two_pow (Nat.lt_of_lt_of_le (show 2 ^ 63 + r < 2 ^ 64 by omega) (Nat.pow_le_pow_right (by decide) hi2)), Nat.testBit_lt_two_pow (Nat.lt_of_lt_of_le h (Nat.pow_le_pow_right (by decide) (by omega)))]
theorem nr_neg {x : UInt64} {c : Nat} {q : Int} (h : NR x true c q) : NR (FP.dneg x) false c q := by
  have hn := h.nat
  obtain ⟨h0, h1, h2, h3, h4⟩ := h
  refine ⟨?_, h1, h2, h3, h4⟩
  have e : (FP.dneg x).toNat = (q + 1075).toNat * 4503599627370496 + (c - 4503599627370496) := by
    show (x ^^^ 0x8000000000000000).toNat = _
    rw [UInt64.toNat_xor, hn]
    rw [show (true.toNat * 2048 + (q + 1075).toNat) * 4503599627370496 + (c - 4503599627370496) = 2 ^ 63 + ((q + 1075).toNat * 4503599627370496 + (c - 4503599627370496)) by simp only [Bool.toNat_true]; omega]
    exact xor63 (by omega)
  rw [FP.Core.val64_neg_bits (a := x) (b := FP.dneg x) (Or.inl (by rw [e, hn]; simp only [Bool.toNat_true]; omega)), h0]
  rfl
/-! the bits of a double, put together -/
theorem exp_l : ∀ E, E < 2048 → (Int32.ofNat E).toInt64 <<< ((52 : Int32).toInt64 &&& 63) = Int64.ofNat (E * 4503599627370496) := by decide +kernel
theorem or_l (a b : Nat) : Int64.ofNat a ||| Int64.ofNat b = Int64.ofNat (a ||| b) := by
  apply Int64.toBitVec_inj.mp
  rw [Int64.toBitVec_or]
  exact BitVec.ofNat_or.symm
theorem or_add {E T : Nat} (h : T < 4503599627370496) : E * 4503599627370496 ||| T = E * 4503599627370496 + T := by
  rw [Nat.mul_comm]
  exact (Nat.two_pow_add_eq_or_of_lt (i := 52) h E).symm
theorem bits_pos {x : UInt64} {c : Nat} {q : Int} (h : NR x false c q) : Int64.ofNat ((q + 1075).toNat * 4503599627370496) ||| Int64.ofNat (c - 4503599627370496) = x.toInt64 := by
  have hn := h.nat
  obtain ⟨h0, h1, h2, h3, h4⟩ := h
  rw [or_l, or_add (by omega)]
  rw [show x = UInt64.ofNat x.toNat from UInt64.ofNat_toNat.symm, hn]
  simp only [Bool.toNat_false, Nat.zero_mul, Nat.zero_add]
  rfl
theorem bits_neg {x : UInt64} {c : Nat} {q : Int} (h : NR x true c q) : (Int64.ofNat ((q + 1075).toNat * 4503599627370496) ||| Int64.ofNat (c - 4503599627370496)) ||| (-9223372036854775808 : Int64) = x.toInt64 := by
  have hn := h.nat
  obtain ⟨h0, h1, h2, h3, h4⟩ := h
  rw [or_l, or_add (by omega), show (-9223372036854775808 : Int64) = Int64.ofNat (2 ^ 63) from by decide, or_l, Nat.or_comm]
  have e := Nat.two_pow_add_eq_or_of_lt (i := 63) (b := (q + 1075).toNat * 4503599627370496 + (c - 4503599627370496)) (by omega) 1
  rw [Nat.mul_one] at e
  rw [← e, show x = UInt64.ofNat x.toNat from UInt64.ofNat_toNat.symm, hn]
  simp only [Bool.toNat_true]
  rw [show (1 * 2048 + (q + 1075).toNat) * 4503599627370496 + (c - 4503599627370496) = 2 ^ 63 + ((q + 1075).toNat * 4503599627370496 + (c - 4503599627370496)) by omega]
  rfl
/-! what is normal stays normal -/
theorem rnd_nr {num den : Nat} {e k1 k2 : Int} (s : Bool) (hn : 0 < num) (hd : 0 < den) (b1 : ¬ FP.Core.Below num den k1) (b2 : FP.Core.Below num den k2) (h1 : -1074 < k1 + e - 52) (h2 : k2 + e - 52 ≤ 971) : ∃ c q, FP.Core.roundRatio FP.Core.b64 s num den e = .fin s c q ∧ 4503599627370496 ≤ c ∧ c < 9007199254740992 ∧ k1 + e - 52 ≤ q ∧ q ≤ k2 + e - 52 := by
  have hl := FP.Core.leading_spec hn hd
  have l1 := FP.Core.lt_of_below b1 hl.2
  have l2 := FP.Core.lt_of_below hl.1 b2
  have hq : FP.Core.quantum FP.Core.b64 num den e = FP.Core.leading num den + e - 52 := by
    unfold FP.Core.quantum
    rw [FP.Core.qmin_b64, show ((FP.Core.b64.p : Nat) : Int) = 53 from rfl]
    omega
  have hf := FP.Core.roundRatio_fits FP.Core.good_b64 s num hd e
  have e0 : FP.Core.roundRatio FP.Core.b64 s num den e = FP.Core.settle FP.Core.b64 s (FP.Core.nearest (FP.Core.unitsNum num e (FP.Core.leading num den + e - 52)) (FP.Core.unitsDen den e (FP.Core.leading num den + e - 52))) (FP.Core.leading num den + e - 52) := by
    unfold FP.Core.roundRatio
    rw [if_neg (by omega), hq]
    rfl
  rw [e0] at hf ⊢
  generalize FP.Core.nearest (FP.Core.unitsNum num e (FP.Core.leading num den + e - 52)) (FP.Core.unitsDen den e (FP.Core.leading num den + e - 52)) = c at hf ⊢
  generalize FP.Core.leading num den = L at l1 l2 hf ⊢
  unfold FP.Core.settle FP.Core.bound at hf ⊢
  rw [qmax_b64] at hf ⊢
  by_cases hc : c < 2 ^ FP.Core.b64.p
  · rw [if_pos hc, if_pos (by omega)] at hf ⊢
    obtain ⟨f1, f2, f3, f4⟩ := hf
    rw [FP.Core.qmin_b64, FP.Core.tails_b64] at f4
    exact ⟨c, _, rfl, by omega, f1, by omega, by omega⟩
  · rw [if_neg hc, if_pos (by omega)] at hf ⊢
    exact ⟨_, _, rfl, by rw [FP.Core.tails_b64]; omega, by rw [FP.Core.tails_b64]; omega, by omega, by omega⟩
theorem below_n (A B k : Nat) : FP.Core.Below A B (k : Int) ↔ A < B * 2 ^ k := by
  have := FP.Core.below_iff A B k 0
  rw [Nat.pow_zero, Nat.mul_one] at this
  rw [← this]
  simp
theorem below_m1 (A B : Nat) : FP.Core.Below A B (-1) ↔ A * 2 < B := by
  have := FP.Core.below_iff A B 0 1
  rw [Nat.pow_zero, Nat.mul_one, Nat.pow_one] at this
  rw [← this]
  rfl
/-- 0, or normal with an exponent from -B to B -/
def ND (B : Int) (x : UInt64) : Prop := FP.Core.val64 x = .fin false 0 (-1074) ∨ ∃ s c q, NR x s c q ∧ -B ≤ q ∧ q ≤ B
theorem ND.mono {B C : Int} {x : UInt64} (h : ND B x) (hb : B ≤ C) : ND C x := by
  rcases h with h | ⟨s, c, q, h, h1, h2⟩
  · exact Or.inl h
  · exact Or.inr ⟨s, c, q, h, by omega, by omega⟩
theorem ND.ne {B : Int} {x : UInt64} (h : ND B x) : FP.Core.val64 x ≠ .nan := by
  rcases h with h | ⟨s, c, q, h, h1, h2⟩
  · rw [h]
    exact FP.Core.Datum.noConfusion
  · exact h.ne
theorem zero_qmin : FP.Core.b64.qmin = -1074 := FP.Core.qmin_b64
theorem nd_0 (B : Int) : ND B 0 := Or.inl (by rw [FP.Core.val64_zero, zero_qmin])
theorem nd_zero_eq {x : UInt64} (h : FP.Core.val64 x = .fin false 0 (-1074)) : x = 0 := by
  refine FP.Core.val64_inj (by rw [h]; exact FP.Core.Datum.noConfusion) ?_
  rw [h, FP.Core.val64_zero, zero_qmin]
theorem i2d_0 : FP.Core.val64 (FP.Core.i2d 0) = .fin false 0 (-1074) := by decide +kernel
theorem nr_i2d {v : Int32} (hv : v ≠ 0) : ∃ c q, NR (FP.Core.i2d v) (decide (v.toInt < 0)) c q ∧ -52 ≤ q ∧ q ≤ -20 := by
  have h1 := v.toInt_lt
  have h2 := v.le_toInt
  have h3 := FP.Core.int32_ne hv
  have e : FP.Core.val64 (FP.Core.i2d v) = FP.Core.roundRatio FP.Core.b64 (decide (v.toInt < 0)) v.toInt.natAbs 1 0 := FP.Core.val64_i2d v
  obtain ⟨c, q, r1, r2, r3, r4, r5⟩ := rnd_nr (num := v.toInt.natAbs) (den := 1) (e := 0) (k1 := (0 : Nat)) (k2 := (32 : Nat)) (decide (v.toInt < 0)) (by omega) (by decide) (by rw [below_n]; omega) (by rw [below_n]; omega) (by decide) (by decide)
  exact ⟨c, q, ⟨e.trans r1, r2, r3, by omega, by omega⟩, by omega, by omega⟩
theorem nd_i2d (v : Int32) : ND 52 (FP.Core.i2d v) := by
  by_cases hv : v = 0
  · rw [hv]
    exact Or.inl i2d_0
  · obtain ⟨c, q, h, h1, h2⟩ := nr_i2d hv
    exact Or.inr ⟨_, c, q, h, h1, by omega⟩
theorem nr_div {x y : UInt64} {s t : Bool} {c d : Nat} {q r : Int} (hx : NR x s c q) (hy : NR y t d r) (h1 : -1000 ≤ q - r) (h2 : q - r ≤ 900) : ∃ c' q', NR (FP.Core.ddiv x y) (s != t) c' q' ∧ q - r - 53 ≤ q' ∧ q' ≤ q - r - 51 := by
  obtain ⟨x0, x1, x2, x3, x4⟩ := hx
  obtain ⟨y0, y1, y2, y3, y4⟩ := hy
  have e : FP.Core.val64 (FP.Core.ddiv x y) = FP.Core.roundRatio FP.Core.b64 (s != t) c d (q - r) := by
    rw [FP.Core.val64_ddiv, x0, y0]
    exact if_neg (by omega)
  obtain ⟨c', q', r1, r2, r3, r4, r5⟩ := rnd_nr (num := c) (den := d) (e := q - r) (k1 := -1) (k2 := (1 : Nat)) (s != t) (by omega) (by omega) (by rw [below_m1]; omega) (by rw [below_n]; omega) (by omega) (by omega)
  exact ⟨c', q', ⟨e.trans r1, r2, r3, by omega, by omega⟩, by omega, by omega⟩
theorem nr_mul {x y : UInt64} {s t : Bool} {c d : Nat} {q r : Int} (hx : NR x s c q) (hy : NR y t d r) (h1 : -1000 ≤ q + r) (h2 : q + r ≤ 900) : ∃ c' q', NR (FP.Core.dmul x y) (s != t) c' q' ∧ q + r + 52 ≤ q' ∧ q' ≤ q + r + 54 := by
  obtain ⟨x0, x1, x2, x3, x4⟩ := hx
  obtain ⟨y0, y1, y2, y3, y4⟩ := hy
  have e : FP.Core.val64 (FP.Core.dmul x y) = FP.Core.roundRatio FP.Core.b64 (s != t) (c * d) 1 (q + r) := by
    rw [FP.Core.val64_dmul, x0, y0]
    rfl
  have m1 : 4503599627370496 * 4503599627370496 ≤ c * d := Nat.mul_le_mul x1 y1
  have m2 : c * d < 9007199254740992 * 9007199254740992 := Nat.mul_lt_mul_of_lt_of_le x2 (Nat.le_of_lt y2) (by omega)
  obtain ⟨c', q', r1, r2, r3, r4, r5⟩ := rnd_nr (num := c * d) (den := 1) (e := q + r) (k1 := (104 : Nat)) (k2 := (106 : Nat)) (s != t) (by omega) (by decide) (by rw [below_n]; omega) (by rw [below_n]; omega) (by omega) (by omega)
  exact ⟨c', q', ⟨e.trans r1, r2, r3, by omega, by omega⟩, by omega, by omega⟩
theorem nd_mul {x y : UInt64} {B C : Int} {d : Nat} {r : Int} (hx : ND B x) (hy : NR y false d r) (h1 : -C ≤ r) (h2 : r ≤ C) (hB : B + C ≤ 800) : ND (B + C + 54) (FP.Core.dmul x y) := by
  rcases hx with hx | ⟨s, c, q, hx, q1, q2⟩
  · refine Or.inl ?_
    rw [FP.Core.val64_dmul, hx, hy.1]
    show FP.Core.roundRatio FP.Core.b64 (false != false) (0 * d) 1 (-1074 + r) = _
    rw [Nat.zero_mul]
    rfl
  · obtain ⟨c', q', n1, n2, n3⟩ := nr_mul hx hy (by omega) (by omega)
    exact Or.inr ⟨_, c', q', n1, by omega, by omega⟩
/-- sums: both normal -/
theorem sum_nr {s t : Bool} {c d : Nat} {q r B : Int} (c1 : 4503599627370496 ≤ c) (c2 : c < 9007199254740992) (d1 : 4503599627370496 ≤ d) (d2 : d < 9007199254740992) (q1 : -B ≤ q) (q2 : q ≤ B) (r1 : -B ≤ r) (r2 : r ≤ B) (hB : B ≤ 800) : (FP.Core.round FP.Core.b64 (FP.Core.exactSum (.fin s c q) (.fin t d r)) = .fin false 0 (-1074)) ∨ ∃ s' c' q', FP.Core.round FP.Core.b64 (FP.Core.exactSum (.fin s c q) (.fin t d r)) = .fin s' c' q' ∧ 4503599627370496 ≤ c' ∧ c' < 9007199254740992 ∧ -(B + 52) ≤ q' ∧ q' ≤ B + 52 := by
  have e : FP.Core.round FP.Core.b64 (FP.Core.exactSum (.fin s c q) (.fin t d r)) = FP.Core.roundRatio FP.Core.b64 (FP.Core.sumSign s t (FP.Core.sumUnits s c q t d r (min q r))) (FP.Core.sumUnits s c q t d r (min q r)).natAbs 1 (min q r) := rfl
  rw [e]
  have hv : FP.Core.sumUnits s c q t d r (min q r) = FP.Core.signed s (c * 2 ^ (q - min q r).toNat) + FP.Core.signed t (d * 2 ^ (r - min q r).toNat) := rfl
  have p1 := Nat.two_pow_pos (q - min q r).toNat
  have p2 := Nat.two_pow_pos (r - min q r).toNat
  have mc : 0 < c * 2 ^ (q - min q r).toNat := Nat.mul_pos (by omega) p1
  have md : 0 < d * 2 ^ (r - min q r).toNat := Nat.mul_pos (by omega) p2
  by_cases hz : FP.Core.sumUnits s c q t d r (min q r) = 0
  · refine Or.inl ?_
    have hs : FP.Core.sumSign s t (FP.Core.sumUnits s c q t d r (min q r)) = false := by
      unfold FP.Core.sumSign
      rw [if_pos hz]
      rw [hv] at hz
      cases s <;> cases t
      · rfl
      · rfl
      · rfl
      · exfalso
        unfold FP.Core.signed at hz
        simp only [if_true] at hz
        omega
    rw [hs, hz]
    rfl
  · refine Or.inr ?_
    have hb : (FP.Core.sumUnits s c q t d r (min q r)).natAbs < 1 * 2 ^ (54 + (max q r - min q r).toNat) := by
      have u1 : c * 2 ^ (q - min q r).toNat < 2 ^ 53 * 2 ^ (max q r - min q r).toNat := Nat.mul_lt_mul_of_lt_of_le c2 (Nat.pow_le_pow_right (by decide) (by omega)) (Nat.two_pow_pos _)
      have u2 : d * 2 ^ (r - min q r).toNat < 2 ^ 53 * 2 ^ (max q r - min q r).toNat := Nat.mul_lt_mul_of_lt_of_le d2 (Nat.pow_le_pow_right (by decide) (by omega)) (Nat.two_pow_pos _)
      rw [Nat.one_mul, Nat.pow_add, show (2 : Nat) ^ 54 = 2 ^ 53 + 2 ^ 53 from rfl, Nat.add_mul, hv]
      generalize 2 ^ 53 * 2 ^ (max q r - min q r).toNat = W at u1 u2
      generalize c * 2 ^ (q - min q r).toNat = a at u1 ⊢
      generalize d * 2 ^ (r - min q r).toNat = b at u2 ⊢
      unfold FP.Core.signed
      cases s <;> cases t <;> simp only [if_true, Bool.false_eq_true, if_false] <;> omega
    obtain ⟨c', q', x1, x2, x3, x4, x5⟩ := rnd_nr (num := (FP.Core.sumUnits s c q t d r (min q r)).natAbs) (den := 1) (e := min q r) (k1 := (0 : Nat)) (k2 := ((54 + (max q r - min q r).toNat : Nat) : Int)) (FP.Core.sumSign s t (FP.Core.sumUnits s c q t d r (min q r))) (by omega) (by decide) (by rw [below_n]; omega) (by rw [below_n]; exact hb) (by omega) (by omega)
    exact ⟨_, c', q', x1, x2, x3, by omega, by omega⟩
theorem nd_of {B : Int} {x : UInt64} (hB : B ≤ 900) (h : FP.Core.val64 x = .fin false 0 (-1074) ∨ ∃ s c q, FP.Core.val64 x = .fin s c q ∧ 4503599627370496 ≤ c ∧ c < 9007199254740992 ∧ -B ≤ q ∧ q ≤ B) : ND B x := by
  rcases h with h | ⟨s, c, q, h0, h1, h2, h3, h4⟩
  · exact Or.inl h
  · exact Or.inr ⟨s, c, q, ⟨h0, h1, h2, by omega, by omega⟩, h3, h4⟩
theorem nd_add {x y : UInt64} {B : Int} (hx : ND B x) (hy : ND B y) (h0 : 0 ≤ B) (hB : B ≤ 800) : ND (B + 52) (FP.Core.dadd x y) := by
  refine nd_of (by omega) ?_
  rw [FP.Core.val64_dadd]
  rcases hx with hx | ⟨s, c, q, ⟨x0, x1, x2, x3, x4⟩, q1, q2⟩
  · rcases hy with hy | ⟨t, d, r, ⟨y0, y1, y2, y3, y4⟩, r1, r2⟩
    · refine Or.inl ?_
      rw [hx, hy]
      rfl
    · refine Or.inr ⟨t, d, r, ?_, y1, y2, by omega, by omega⟩
      rw [hx, y0, FP.Core.exactSum_comm, ← zero_qmin]
      exact FP.Core.round_sum_zero FP.Core.good_b64 (nr_fits y1 y2 y3 y4) false (fun s q e => by injection e with a1 a2 a3; omega)
  · rcases hy with hy | ⟨t, d, r, ⟨y0, y1, y2, y3, y4⟩, r1, r2⟩
    · refine Or.inr ⟨s, c, q, ?_, x1, x2, by omega, by omega⟩
      rw [hy, x0, ← zero_qmin]
      exact FP.Core.round_sum_zero FP.Core.good_b64 (nr_fits x1 x2 x3 x4) false (fun s q e => by injection e with a1 a2 a3; omega)
    · rw [x0, y0]
      exact sum_nr x1 x2 y1 y2 q1 q2 r1 r2 hB
theorem nd_sub {x y : UInt64} {B : Int} (hx : ND B x) (hy : ND B y) (h0 : 0 ≤ B) (hB : B ≤ 800) : ND (B + 52) (FP.Core.dsub x y) := by
  refine nd_of (by omega) ?_
  rw [FP.Core.val64_dsub]
  rcases hx with hx | ⟨s, c, q, ⟨x0, x1, x2, x3, x4⟩, q1, q2⟩
  · rcases hy with hy | ⟨t, d, r, ⟨y0, y1, y2, y3, y4⟩, r1, r2⟩
    · refine Or.inl ?_
      rw [hx, hy]
      rfl
    · refine Or.inr ⟨!t, d, r, ?_, y1, y2, by omega, by omega⟩
      rw [hx, y0, FP.Core.exactSum_comm, ← zero_qmin]
      exact FP.Core.round_sum_zero FP.Core.good_b64 (nr_fits y1 y2 y3 y4) false (fun s q e => by injection e with a1 a2 a3; omega)
  · rcases hy with hy | ⟨t, d, r, ⟨y0, y1, y2, y3, y4⟩, r1, r2⟩
    · refine Or.inr ⟨s, c, q, ?_, x1, x2, by omega, by omega⟩
      rw [hy, x0, ← zero_qmin]
      exact FP.Core.round_sum_zero FP.Core.good_b64 (nr_fits x1 x2 x3 x4) true (fun s q e => by injection e with a1 a2 a3; omega)
    · rw [x0, y0]
      exact sum_nr x1 x2 y1 y2 q1 q2 r1 r2 hB
/-- a mean of whole numbers above 0 -/
theorem nr_mean {a b : Int32} (ha : 0 < a.toInt) (hb : 0 < b.toInt) : ∃ c q, NR (FP.Core.ddiv (FP.Core.i2d a) (FP.Core.i2d b)) false c q ∧ -85 ≤ q ∧ q ≤ 85 := by
  obtain ⟨c, q, h1, h2, h3⟩ := nr_i2d (v := a) (fun e => by rw [e] at ha; exact absurd ha (by decide))
  obtain ⟨d, r, g1, g2, g3⟩ := nr_i2d (v := b) (fun e => by rw [e] at hb; exact absurd hb (by decide))
  rw [decide_eq_false (by omega)] at h1 g1
  obtain ⟨c', q', n1, n2, n3⟩ := nr_div h1 g1 (by omega) (by omega)
  exact ⟨c', q', n1, by omega, by omega⟩
