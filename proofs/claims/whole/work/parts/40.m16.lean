/-! the check: a number of the text -/
theorem upd2_4 (M : Mem) (ix : Nat) (a b c d : Int32) : upd2 (upd2 (upd2 (upd2 M 230 ix a) 224 8 b) 230 ix c) 224 8 d = upd2 (upd2 M 230 ix c) 224 8 d := by
  funext x y
  simp only [upd2_get]
  by_cases h1 : x = 224
  · subst h1
    by_cases h2 : y = 8 <;> simp [h2]
  · by_cases h3 : x = 230
    · subst h3
      by_cases h4 : y = ix <;> simp [h4]
    · simp [h1, h3]
theorem upd2_id {M : Mem} {k j : Nat} {v : Int32} (h : M k j = v) : upd2 M k j v = M := by
  funext x y
  simp only [upd2_get]
  by_cases h1 : x = k
  · subst h1
    by_cases h2 : y = j
    · subst h2
      simp [h]
    · simp [h2]
  · simp [h1]
abbrev nmM (M : Mem) (tn p ix j : Nat) : Mem := upd2 (upd2 M 230 ix (nv (sgn (M 229) tn) p j)) 224 8 (nI (p + j))
theorem nm_229 (M : Mem) (tn p ix j : Nat) : nmM M tn p ix j 229 = M 229 := (upd2_k _ _ _ (by decide)).trans (upd2_k _ _ _ (by decide))
theorem nm_7 (M : Mem) (tn p ix j : Nat) : nmM M tn p ix j 224 7 = M 224 7 := (upd2_j _ _ _ (by decide)).trans (congrFun (upd2_k _ _ _ (by decide)) 7)
theorem nm_8 (M : Mem) (tn p ix j : Nat) : nmM M tn p ix j 224 8 = nI (p + j) := upd2_self _ _ _ _
theorem nm_n (M : Mem) (tn p ix j : Nat) : nmM M tn p ix j 230 ix = nv (sgn (M 229) tn) p j := (congrFun (upd2_k _ _ _ (by decide)) ix).trans (upd2_self _ _ _ _)
set_option maxHeartbeats 4000000 in
set_option maxRecDepth 100000 in
theorem c_X8_numbered (l : Launch) (g : Gm) (M : Mem) (tn : Nat) (htn6 : tn ≤ 60) (htn : M 224 7 = nI tn) (p : Nat) (hp : p < 1000) (hsp : M 224 8 = nI p) (hpn : p ≤ tn) (ix : Nat) (hix : ix < 5) : Cn l yX8_numbered cX8_numbered 3 (some .boolean) 2 44 g [.ref (ad g 224), .int (nI ix)] M (fun v M2 => v = some (.int (b2i (¬ dgs (sgn (M 229) tn) p = 0))) ∧ M2 = nmM M tn p ix (dgs (sgn (M 229) tn) p)) := by
  refine Cn.intro (lv0 := [some (.ref (ad g 224)), some (.int (nI ix)), none]) 1 (by decide +kernel) (Nat.le_of_ble_eq_true rfl) rfl (fun X F r => ?_)
  have k224 := kd224
  have k225 := kd225
  have k229 := kd229
  have k230 := kd230
  refine g_aload_n (pc := 0) F dX8_numbered_0 rfl ?_
  refine g_geti (pc := 1) F fl_X8_151 (by assumption) rfl dX8_numbered_1 ?_
  refine g_stk (st' := [.int (nI p)]) (by rw [hsp]) ?_
  refine g_istore_n (pc := 4) F dX8_numbered_4 (by decide) rfl ?_
  refine g_aload_n (pc := 5) F dX8_numbered_5 rfl ?_
  refine g_getr (pc := 6) F fl_X8_25 (by assumption) rfl dX8_numbered_6 ?_
  refine g_iload_n (pc := 9) F dX8_numbered_9 rfl ?_
  refine g_iconst (pc := 10) (v := 0) F dX8_numbered_10 (by decide) ?_
  refine g_iast (pc := 11) (q := ix) F k230 rfl rfl hix dX8_numbered_11 ?_
  have T : ∀ j, j ≤ 3 → dgs (sgn (M 229) tn) p = j → G X g 3 (nmM M tn p ix j) 74 [some (.ref (ad g 224)), some (.int (nI ix)), some (.int (nI p))] [] := by
    intro j hj3 hd
    refine g_aload_n (pc := 74) F dX8_numbered_74 rfl ?_
    refine g_geti (pc := 75) F fl_X8_151 (by assumption) rfl dX8_numbered_75 ?_
    refine g_iload_n (pc := 78) F dX8_numbered_78 rfl ?_
    refine g_icmp_le (pc := 79) (tgt := 86) F dX8_numbered_79 (by decide) (fun c79 => ?_) (fun c79 => ?_)
    · refine g_iconst (pc := 86) (v := 0) F dX8_numbered_86 (by decide) ?_
      refine g_zret (pc := 87) F (by decide) r dX8_numbered_87 ?_
      exact ⟨by rw [show b2i (¬ dgs (sgn (M 229) tn) p = 0) = 0 from if_neg (fun q => q (by rw [nm_8, nI_leI (by omega) (by omega)] at c79; omega))], by rw [hd]⟩
    · refine g_iconst (pc := 82) (v := 1) F dX8_numbered_82 (by decide) ?_
      refine g_goto (pc := 83) (tgt := 87) F dX8_numbered_83 (by decide) ?_
      refine g_zret (pc := 87) F (by decide) r dX8_numbered_87 ?_
      exact ⟨by rw [show b2i (¬ dgs (sgn (M 229) tn) p = 0) = 1 from if_pos (fun q => c79 (by rw [nm_8, nI_leI (by omega) (by omega)]; omega))], by rw [hd]⟩
  have L : ∀ (n j : Nat), j + n = 3 → (∀ i, i < j → digP ((sgn (M 229) tn) (p + i))) → G X g 3 (nmM M tn p ix j) 12 [some (.ref (ad g 224)), some (.int (nI ix)), some (.int (nI p))] [] := by
    intro n
    induction n with
    | zero =>
      intro j hjn hdig
      obtain rfl : j = 3 := by omega
      refine g_aload_n (pc := 12) F dX8_numbered_12 rfl ?_
      refine g_bipush (pc := 13) (v := 48) F dX8_numbered_13 (by decide) ?_
      refine g_bipush (pc := 15) (v := 57) F dX8_numbered_15 (by decide) ?_
      refine g_callV (pc := 17) (rf2 := 1) (rl2 := 22) F cs_X8_154 k224 rfl (by decide) (by rfl) (by rfl) (Nat.le_of_ble_eq_true (by rfl)) (by decide) dX8_numbered_17 (c_X8_isAt _ g _ tn htn6 ((nm_7 M tn p ix 3).trans htn) (p + 3) (by omega) (nm_8 M tn p ix 3) 48 57 (by decide)) (fun v M2 hz => ?_)
      obtain ⟨rfl, h2⟩ := hz
      rw [h2, nm_229]
      refine g_if_eq (pc := 20) (tgt := 74) F dX8_numbered_20 (by decide) (fun c20 => ?_) (fun c20 => ?_)
      · exact T 3 (by decide) (dgs_eq (by decide) hdig (Or.inl rfl))
      · refine g_aload_n (pc := 23) F dX8_numbered_23 rfl ?_
        refine g_geti (pc := 24) F fl_X8_151 (by assumption) rfl dX8_numbered_24 ?_
        refine g_iload_n (pc := 27) F dX8_numbered_27 rfl ?_
        refine g_isub (pc := 28) F dX8_numbered_28 ?_
        refine g_stk (st' := [.int (nI 3)]) (by rw [nm_8, nI_sub (by omega), Nat.add_sub_cancel_left] <;> rfl) ?_
        refine g_iconst (pc := 29) (v := 3) F dX8_numbered_29 (by decide) ?_
        refine g_icmp_ge (pc := 30) (tgt := 74) F dX8_numbered_30 (by decide) (fun c30 => ?_) (fun c30 => ?_)
        · exact T 3 (by decide) (dgs_eq (by decide) hdig (Or.inl rfl))
        · exact absurd (nI_le (a := 3) (b := 3) (by decide) (by decide)) c30
    | succ n ih =>
      intro j hjn hdig
      refine g_aload_n (pc := 12) F dX8_numbered_12 rfl ?_
      refine g_bipush (pc := 13) (v := 48) F dX8_numbered_13 (by decide) ?_
      refine g_bipush (pc := 15) (v := 57) F dX8_numbered_15 (by decide) ?_
      refine g_callV (pc := 17) (rf2 := 1) (rl2 := 22) F cs_X8_154 k224 rfl (by decide) (by rfl) (by rfl) (Nat.le_of_ble_eq_true (by rfl)) (by decide) dX8_numbered_17 (c_X8_isAt _ g _ tn htn6 ((nm_7 M tn p ix j).trans htn) (p + j) (by omega) (nm_8 M tn p ix j) 48 57 (by decide)) (fun v M2 hz => ?_)
      obtain ⟨rfl, h2⟩ := hz
      rw [h2, nm_229]
      refine g_if_eq (pc := 20) (tgt := 74) F dX8_numbered_20 (by decide) (fun c20 => ?_) (fun c20 => ?_)
      · exact T j (by omega) (dgs_eq (by omega) hdig (Or.inr (fun e => b2i_0 c20 e)))
      · refine g_aload_n (pc := 23) F dX8_numbered_23 rfl ?_
        refine g_geti (pc := 24) F fl_X8_151 (by assumption) rfl dX8_numbered_24 ?_
        refine g_iload_n (pc := 27) F dX8_numbered_27 rfl ?_
        refine g_isub (pc := 28) F dX8_numbered_28 ?_
        refine g_stk (st' := [.int (nI j)]) (by rw [nm_8, nI_sub (by omega), Nat.add_sub_cancel_left] <;> rfl) ?_
        refine g_iconst (pc := 29) (v := 3) F dX8_numbered_29 (by decide) ?_
        refine g_icmp_ge (pc := 30) (tgt := 74) F dX8_numbered_30 (by decide) (fun c30 => ?_) (fun c30 => ?_)
        · exact absurd c30 (nI_ge (a := j) (b := 3) (by omega) (by decide))
        · have hdj : digP ((sgn (M 229) tn) (p + j)) := b2i_1 c20
          have hpj : p + j < tn := sgn_dig hdj
          refine g_aload_n (pc := 33) F dX8_numbered_33 rfl ?_
          refine g_getr (pc := 34) F fl_X8_25 (by assumption) rfl dX8_numbered_34 ?_
          refine g_iload_n (pc := 37) F dX8_numbered_37 rfl ?_
          refine g_bipush (pc := 38) (v := 10) F dX8_numbered_38 (by decide) ?_
          refine g_aload_n (pc := 40) F dX8_numbered_40 rfl ?_
          refine g_getr (pc := 41) F fl_X8_25 (by assumption) rfl dX8_numbered_41 ?_
          refine g_iload_n (pc := 44) F dX8_numbered_44 rfl ?_
          refine g_iald (pc := 45) (q := ix) F k230 rfl rfl hix dX8_numbered_45 ?_
          refine g_imul (pc := 46) F dX8_numbered_46 ?_
          refine g_aload_n (pc := 47) F dX8_numbered_47 rfl ?_
          refine g_getr (pc := 48) F fl_X8_22 (by assumption) rfl dX8_numbered_48 ?_
          refine g_aload_n (pc := 51) F dX8_numbered_51 rfl ?_
          refine g_geti (pc := 52) F fl_X8_151 (by assumption) rfl dX8_numbered_52 ?_
          refine g_iald (pc := 55) (q := p + j) F k229 rfl (nm_8 M tn p ix j) (by omega) dX8_numbered_55 ?_
          refine g_iadd (pc := 56) F dX8_numbered_56 ?_
          refine g_bipush (pc := 57) (v := 48) F dX8_numbered_57 (by decide) ?_
          refine g_isub (pc := 59) F dX8_numbered_59 ?_
          refine g_iast (pc := 60) (q := ix) F k230 rfl rfl hix dX8_numbered_60 ?_
          refine G.mem (M' := upd2 (nmM M tn p ix j) 230 ix (nv (sgn (M 229) tn) p (j + 1))) ?_ ?_
          · rw [nm_n]
            show upd2 (nmM M tn p ix j) 230 ix (10 * nv (sgn (M 229) tn) p j + nmM M tn p ix j 229 (p + j) - 48) = upd2 (nmM M tn p ix j) 230 ix (nv (sgn (M 229) tn) p j * 10 + ((sgn (M 229) tn) (p + j) - 48))
            rw [nm_229, ← sgn_lt (tx := M 229) hpj, Int32.mul_comm, Int32.sub_eq_add_neg, Int32.sub_eq_add_neg, Int32.add_assoc]
          refine g_aload_n (pc := 61) F dX8_numbered_61 rfl ?_
          refine g_dup (pc := 62) F dX8_numbered_62 rfl ?_
          refine g_geti (pc := 63) F fl_X8_151 (by assumption) rfl dX8_numbered_63 ?_
          refine g_iconst (pc := 66) (v := 1) F dX8_numbered_66 (by decide) ?_
          refine g_iadd (pc := 67) F dX8_numbered_67 ?_
          refine g_puti (pc := 68) F fl_X8_151 rfl rfl (by assumption) rfl dX8_numbered_68 ?_
          refine g_goto (pc := 71) (tgt := 12) F dX8_numbered_71 (by decide) ?_
          refine G.mem (M' := nmM M tn p ix (j + 1)) ?_ (ih (j + 1) (by omega) (fun i hi => ?_))
          · rw [show upd2 (nmM M tn p ix j) 230 ix (nv (sgn (M 229) tn) p (j + 1)) 224 8 = nI (p + j) from (congrFun (upd2_k _ _ _ (by decide)) 8).trans (nm_8 M tn p ix j), nI_1]
            exact upd2_4 M ix _ _ _ _
          · by_cases h : i = j
            · rw [h]
              exact hdj
            · exact hdig i (by omega)
  refine G.mem (M' := nmM M tn p ix 0) ?_ (L 3 0 (by decide) (fun i hi => absurd hi (Nat.not_lt_zero i)))
  exact (upd2_id (by rw [upd2_k _ _ _ (by decide)]; exact hsp)).symm

