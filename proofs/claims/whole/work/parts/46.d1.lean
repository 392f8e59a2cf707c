/-! the class: the bits of a double -/
theorem nI_dec (a : Nat) : nI (a + 1) + Int32.ofInt (-1) = nI a := by
  rw [← nI_1]
  show nI a + 1 + (-1 : Int32) = nI a
  rw [Int32.add_assoc]
  exact Int32.add_zero _
set_option maxHeartbeats 4000000 in
set_option maxRecDepth 100000 in
theorem c_X7_bitsOf (l : Launch) (g : Gm) (M : Mem) (x : UInt64) (hd : ND 900 x) : Cn l yX7_bitsOf cX7_bitsOf 9 (some .long) 0 0 g [.double x] M (fun v M2 => v = some (.long x.toInt64) ∧ M2 = M) := by
  refine Cn.intro (lv0 := [some (.double x), none, none, none, none, none, none, none, none]) 7 (by decide +kernel) (Nat.le_of_ble_eq_true rfl) rfl (fun X F r => ?_)
  rcases hd with hd | ⟨s, c, q, hx, hq1, hq2⟩
  · obtain rfl := nd_zero_eq hd
    refine g_dload_n (pc := 0) F dX7_bitsOf_0 rfl ?_
    refine g_dconst0 (pc := 1) F dX7_bitsOf_1 ?_
    refine g_dcmp (pc := 2) F dX7_bitsOf_2 ?_
    refine g_if_ne (pc := 3) (tgt := 8) F dX7_bitsOf_3 (by decide) (fun c3 => ?_) (fun c3 => ?_)
    · exact absurd (show Op.cmpValue (FP.dcmp 0 FP.dconst0) .l = 0 by decide) c3
    · skip
      refine g_lconst (pc := 6) (v := 0) F dX7_bitsOf_6 (by decide) ?_
      refine g_lret (pc := 7) F r dX7_bitsOf_7 ?_
      exact ⟨rfl, rfl⟩
  obtain ⟨E, hE⟩ : ∃ E, E = (q + 1075).toNat := ⟨_, rfl⟩
  obtain ⟨x0, x1, x2, x3, x4⟩ := id hx
  obtain ⟨n2, hn2e⟩ : ∃ n2, n2 = (-52 - q).toNat := ⟨_, rfl⟩
  obtain ⟨n1, hn1e⟩ : ∃ n1, n1 = (q + 52).toNat := ⟨_, rfl⟩
  have hn2 : n2 ≤ 1022 := by omega
  have h02 : n1 = 0 ∨ n2 = 0 := by omega
  have T92 : ∀ (y : UInt64) (w : Option Value), NR y false c (-52) → G X g 9 M 92 [some (.double x), none, some (.double y), none, some (.int (nI E)), w, none, none, none] [] := by
    intro y w hy
    refine g_dload_n (pc := 92) F dX7_bitsOf_92 rfl ?_
    refine g_dconst1 (pc := 93) F dX7_bitsOf_93 ?_
    refine g_dsub (pc := 94) F (n64_of (nr_frac hy).2.1) dX7_bitsOf_94 ?_
    refine g_ldc2d (pc := 95) F wk_X7_208 dX7_bitsOf_95 ?_
    refine g_dmul (pc := 98) F (n64_of (nr_frac hy).2.2) dX7_bitsOf_98 ?_
    refine g_d2l (pc := 99) F dX7_bitsOf_99 ?_
    refine g_stk (st' := [.long (Int64.ofNat (c - 4503599627370496))]) (by rw [show FP.d2l (FP.dmul (FP.dsub y FP.dconst1) 4841369599423283200) = _ from (nr_frac hy).1]) ?_
    refine g_lstore (pc := 100) F dX7_bitsOf_100 (by decide) rfl ?_
    refine g_iload (pc := 102) F dX7_bitsOf_102 rfl ?_
    refine g_i2l (pc := 104) F dX7_bitsOf_104 rfl ?_
    refine g_bipush (pc := 105) (v := 52) F dX7_bitsOf_105 (by decide) ?_
    refine g_lshl (pc := 107) F dX7_bitsOf_107 (exp_l E (by omega)) ?_
    refine g_lload (pc := 108) F dX7_bitsOf_108 rfl ?_
    refine g_lor (pc := 110) F dX7_bitsOf_110 ?_
    refine g_lstore (pc := 111) F dX7_bitsOf_111 (by decide) rfl ?_
    refine g_dload_n (pc := 113) F dX7_bitsOf_113 rfl ?_
    refine g_dconst0 (pc := 114) F dX7_bitsOf_114 ?_
    refine g_dcmp (pc := 115) F dX7_bitsOf_115 ?_
    refine g_if_ge (pc := 116) (tgt := 128) F dX7_bitsOf_116 (by decide) (fun c116 => ?_) (fun c116 => ?_)
    · obtain rfl : s = false := by
        rw [show FP.dcmp x FP.dconst0 = some (if s then .lt else .gt) from nr_cmp0 hx] at c116
        cases s
        · rfl
        · exact absurd c116 (by decide)
      refine g_lload (pc := 128) F dX7_bitsOf_128 rfl ?_
      refine g_lret (pc := 130) F r dX7_bitsOf_130 ?_
      rw [hE, bits_pos hx]
      exact ⟨rfl, rfl⟩
    · obtain rfl : s = true := by
        rw [show FP.dcmp x FP.dconst0 = some (if s then .lt else .gt) from nr_cmp0 hx] at c116
        cases s
        · exact absurd (by decide) c116
        · rfl
      refine g_lload (pc := 119) F dX7_bitsOf_119 rfl ?_
      refine g_ldc2 (pc := 121) F wk_X7_210 dX7_bitsOf_121 ?_
      refine g_lor (pc := 124) F dX7_bitsOf_124 ?_
      refine g_goto (pc := 125) (tgt := 130) F dX7_bitsOf_125 (by decide) ?_
      refine g_lret (pc := 130) F r dX7_bitsOf_130 ?_
      rw [hE, bits_neg hx]
      exact ⟨rfl, rfl⟩
  have L2 : ∀ (n k : Nat) (y : UInt64) (q1 : Int), q1 + n = -52 → k + n ≤ 1022 → NR y false c q1 → G X g 9 M 63 [some (.double x), none, some (.double y), none, some (.int (nI (E + n))), some (.int (nI k)), none, none, none] [] := by
    intro n
    induction n with
    | zero =>
      intro k y q1 hq1 hk hy
      obtain rfl : q1 = -52 := by omega
      refine g_iload (pc := 63) F dX7_bitsOf_63 rfl ?_
      refine g_sipush (pc := 65) (v := 1100) F dX7_bitsOf_65 (by decide) ?_
      refine g_icmp_ge (pc := 68) (tgt := 92) F dX7_bitsOf_68 (by decide) (fun c68 => ?_) (fun c68 => ?_)
      · exact T92 y _ hy
      · skip
        refine g_dload_n (pc := 71) F dX7_bitsOf_71 rfl ?_
        refine g_dconst1 (pc := 72) F dX7_bitsOf_72 ?_
        refine g_dcmp (pc := 73) F dX7_bitsOf_73 ?_
        refine g_if_ge (pc := 74) (tgt := 92) F dX7_bitsOf_74 (by decide) (fun c74 => ?_) (fun c74 => ?_)
        · exact T92 y _ hy
        · have := (cvd1 hy _).mp (Int32.not_le.mp c74)
          omega
    | succ n ih =>
      intro k y q1 hq1 hk hy
      refine g_iload (pc := 63) F dX7_bitsOf_63 rfl ?_
      refine g_sipush (pc := 65) (v := 1100) F dX7_bitsOf_65 (by decide) ?_
      refine g_icmp_ge (pc := 68) (tgt := 92) F dX7_bitsOf_68 (by decide) (fun c68 => ?_) (fun c68 => ?_)
      · exact absurd c68 (nI_ge (a := k) (b := 1100) (by omega) (by decide))
      · refine g_dload_n (pc := 71) F dX7_bitsOf_71 rfl ?_
        refine g_dconst1 (pc := 72) F dX7_bitsOf_72 ?_
        refine g_dcmp (pc := 73) F dX7_bitsOf_73 ?_
        refine g_if_ge (pc := 74) (tgt := 92) F dX7_bitsOf_74 (by decide) (fun c74 => ?_) (fun c74 => ?_)
        · exact absurd ((cvd1 hy _).mpr (by omega)) (Int32.not_lt.mpr c74)
        · have hd := nr_dbl hy (by omega)
          refine g_dload_n (pc := 77) F dX7_bitsOf_77 rfl ?_
          refine g_ldc2d (pc := 78) F wk_X7_206 dX7_bitsOf_78 ?_
          refine g_dmul (pc := 81) F (n64_of hd.ne) dX7_bitsOf_81 ?_
          refine g_dstore_n (pc := 82) F dX7_bitsOf_82 (by decide) rfl ?_
          refine g_iinc (pc := 83) F dX7_bitsOf_83 rfl rfl (by decide) rfl ?_
          refine g_iinc (pc := 86) F dX7_bitsOf_86 rfl rfl (by decide) rfl ?_
          refine g_goto (pc := 89) (tgt := 63) F dX7_bitsOf_89 (by decide) ?_
          refine G.sub [some (.double x), none, some (.double (FP.dmul y 4611686018427387904)), none, some (.int (nI (E + n))), some (.int (nI (k + 1))), none, none, none] ⟨rfl, rfl, ?_, ?_, trivial⟩ (ih (k + 1) _ (q1 + 1) (by omega) (by omega) hd)
          · show some (Value.int (nI (E + n + 1) + Int32.ofInt (-1))) = some (Value.int (nI (E + n)))
            rw [nI_dec]
          · show some (Value.int (nI k + 1)) = some (Value.int (nI (k + 1)))
            rw [nI_1]
  have T60 : ∀ (n : Nat) (y : UInt64) (q1 : Int) (w : Option Value), q1 + n = -52 → n ≤ 1022 → NR y false c q1 → G X g 9 M 60 [some (.double x), none, some (.double y), none, some (.int (nI (E + n))), w, none, none, none] [] := by
    intro n y q1 w hq1 hn hy
    refine g_iconst (pc := 60) (v := 0) F dX7_bitsOf_60 (by decide) ?_
    refine g_istore (pc := 61) F dX7_bitsOf_61 (by decide) rfl ?_
    exact L2 n 0 y q1 hq1 (by omega) hy
  have L1 : ∀ (n k a : Nat) (y : UInt64) (q1 : Int), q1 + n2 = -52 + n → n ≤ n1 → a + n = E + n2 → k + n ≤ 1023 → NR y false c q1 → G X g 9 M 29 [some (.double x), none, some (.double y), none, some (.int (nI a)), some (.int (nI k)), none, none, none] [] := by
    intro n
    induction n with
    | zero =>
      intro k a y q1 hq1 hnn hae hk hy
      obtain rfl : a = E + n2 := by omega
      rw [Int.natCast_zero, Int.add_zero] at hq1
      refine g_iload (pc := 29) F dX7_bitsOf_29 rfl ?_
      refine g_sipush (pc := 31) (v := 1100) F dX7_bitsOf_31 (by decide) ?_
      refine g_icmp_ge (pc := 34) (tgt := 60) F dX7_bitsOf_34 (by decide) (fun c34 => ?_) (fun c34 => ?_)
      · exact T60 n2 y q1 _ hq1 hn2 hy
      · skip
        refine g_dload_n (pc := 37) F dX7_bitsOf_37 rfl ?_
        refine g_ldc2d (pc := 38) F wk_X7_206 dX7_bitsOf_38 ?_
        refine g_dcmp (pc := 41) F dX7_bitsOf_41 ?_
        refine g_if_lt (pc := 42) (tgt := 60) F dX7_bitsOf_42 (by decide) (fun c42 => ?_) (fun c42 => ?_)
        · exact T60 n2 y q1 _ hq1 hn2 hy
        · exact absurd ((cvd2 hy _).mpr (by omega)) c42
    | succ n ih =>
      intro k a y q1 hq1 hnn hae hk hy
      refine g_iload (pc := 29) F dX7_bitsOf_29 rfl ?_
      refine g_sipush (pc := 31) (v := 1100) F dX7_bitsOf_31 (by decide) ?_
      refine g_icmp_ge (pc := 34) (tgt := 60) F dX7_bitsOf_34 (by decide) (fun c34 => ?_) (fun c34 => ?_)
      · exact absurd c34 (nI_ge (a := k) (b := 1100) (by omega) (by decide))
      · refine g_dload_n (pc := 37) F dX7_bitsOf_37 rfl ?_
        refine g_ldc2d (pc := 38) F wk_X7_206 dX7_bitsOf_38 ?_
        refine g_dcmp (pc := 41) F dX7_bitsOf_41 ?_
        refine g_if_lt (pc := 42) (tgt := 60) F dX7_bitsOf_42 (by decide) (fun c42 => ?_) (fun c42 => ?_)
        · have := (cvd2 hy _).mp c42
          omega
        · have hd := nr_half hy (by omega)
          refine g_dload_n (pc := 45) F dX7_bitsOf_45 rfl ?_
          refine g_ldc2d (pc := 46) F wk_X7_206 dX7_bitsOf_46 ?_
          refine g_ddiv (pc := 49) F (n64_of hd.ne) dX7_bitsOf_49 ?_
          refine g_dstore_n (pc := 50) F dX7_bitsOf_50 (by decide) rfl ?_
          refine g_iinc (pc := 51) F dX7_bitsOf_51 rfl rfl (by decide) rfl ?_
          refine g_iinc (pc := 54) F dX7_bitsOf_54 rfl rfl (by decide) rfl ?_
          refine g_goto (pc := 57) (tgt := 29) F dX7_bitsOf_57 (by decide) ?_
          refine G.sub [some (.double x), none, some (.double (FP.ddiv y 4611686018427387904)), none, some (.int (nI (a + 1))), some (.int (nI (k + 1))), none, none, none] ⟨rfl, rfl, ?_, ?_, trivial⟩ (ih (k + 1) (a + 1) _ (q1 - 1) (by omega) (by omega) (by omega) (by omega) hd)
          · show some (Value.int (nI a + 1)) = some (Value.int (nI (a + 1)))
            rw [nI_1]
          · show some (Value.int (nI k + 1)) = some (Value.int (nI (k + 1)))
            rw [nI_1]
  have T20 : ∀ (y : UInt64), NR y false c q → G X g 9 M 20 [some (.double x), none, none, none, none, none, none, none, none] [.double y] := by
    intro y hy
    refine g_dstore_n (pc := 20) F dX7_bitsOf_20 (by decide) rfl ?_
    refine g_sipush (pc := 21) (v := 1023) F dX7_bitsOf_21 (by decide) ?_
    refine g_istore (pc := 24) F dX7_bitsOf_24 (by decide) rfl ?_
    refine g_iconst (pc := 26) (v := 0) F dX7_bitsOf_26 (by decide) ?_
    refine g_istore (pc := 27) F dX7_bitsOf_27 (by decide) rfl ?_
    exact L1 n1 0 1023 y q (by omega) (Nat.le_refl _) (by omega) (by omega) hy
  cases s
  · skip
    refine g_dload_n (pc := 0) F dX7_bitsOf_0 rfl ?_
    refine g_dconst0 (pc := 1) F dX7_bitsOf_1 ?_
    refine g_dcmp (pc := 2) F dX7_bitsOf_2 ?_
    refine g_if_ne (pc := 3) (tgt := 8) F dX7_bitsOf_3 (by decide) (fun c3 => ?_) (fun c3 => ?_)
    · refine g_dload_n (pc := 8) F dX7_bitsOf_8 rfl ?_
      refine g_dconst0 (pc := 9) F dX7_bitsOf_9 ?_
      refine g_dcmp (pc := 10) F dX7_bitsOf_10 ?_
      refine g_if_ge (pc := 11) (tgt := 19) F dX7_bitsOf_11 (by decide) (fun c11 => ?_) (fun c11 => ?_)
      · skip
        refine g_dload_n (pc := 19) F dX7_bitsOf_19 rfl ?_
        exact T20 _ hx
      · rw [show FP.dcmp x FP.dconst0 = some (if false then .lt else .gt) from nr_cmp0 hx] at c11
        exact absurd (by decide) c11
    · rw [show FP.dcmp x FP.dconst0 = some (if false then .lt else .gt) from nr_cmp0 hx] at c3
      exact absurd c3 (by decide)
  · skip
    refine g_dload_n (pc := 0) F dX7_bitsOf_0 rfl ?_
    refine g_dconst0 (pc := 1) F dX7_bitsOf_1 ?_
    refine g_dcmp (pc := 2) F dX7_bitsOf_2 ?_
    refine g_if_ne (pc := 3) (tgt := 8) F dX7_bitsOf_3 (by decide) (fun c3 => ?_) (fun c3 => ?_)
    · refine g_dload_n (pc := 8) F dX7_bitsOf_8 rfl ?_
      refine g_dconst0 (pc := 9) F dX7_bitsOf_9 ?_
      refine g_dcmp (pc := 10) F dX7_bitsOf_10 ?_
      refine g_if_ge (pc := 11) (tgt := 19) F dX7_bitsOf_11 (by decide) (fun c11 => ?_) (fun c11 => ?_)
      · rw [show FP.dcmp x FP.dconst0 = some (if true then .lt else .gt) from nr_cmp0 hx] at c11
        exact absurd c11 (by decide)
      · skip
        refine g_dload_n (pc := 14) F dX7_bitsOf_14 rfl ?_
        refine g_dneg (pc := 15) F dX7_bitsOf_15 ?_
        refine g_goto (pc := 16) (tgt := 20) F dX7_bitsOf_16 (by decide) ?_
        exact T20 _ (nr_neg hx)
    · rw [show FP.dcmp x FP.dconst0 = some (if true then .lt else .gt) from nr_cmp0 hx] at c3
      exact absurd c3 (by decide)

