/-! the check: groups -/
theorem bit_in : ∀ z, z < 64 → ∀ i, i < 6 → ((nI z >>> (nI i &&& 31)) &&& 1 = 1 ↔ ¬ nI z &&& (1 <<< (nI i &&& 31)) = 0) := by decide +kernel
theorem bit_join : ∀ z, z < 64 → ∀ i, i < 6 → nI z &&& (1 <<< (nI i &&& 31)) = 0 → jbc (nI z ||| (1 <<< (nI i &&& 31))) = jbc (nI z) + 1 := by decide +kernel
theorem bit_leave0 : ∀ z, z < 64 → ∀ i, i < 6 → ¬ nI z &&& (1 <<< (nI i &&& 31)) = 0 → nI z ^^^ (1 <<< (nI i &&& 31)) = nI z &&& ((1 <<< (nI i &&& 31)) ^^^ -1) := by decide +kernel
theorem bit_leave : ∀ z, z < 64 → ∀ i, i < 6 → ¬ nI z &&& (1 <<< (nI i &&& 31)) = 0 → nI z ^^^ (1 <<< (nI i &&& 31)) = nI z &&& ((1 <<< (nI i &&& 31)) ^^^ -1) ∧ ∃ z', z' < 64 ∧ nI z &&& ((1 <<< (nI i &&& 31)) ^^^ -1) = nI z' := fun z hz i hi h => ⟨bit_leave0 z hz i hi h, _, (bit_off z hz i hi).2.1, (bit_off z hz i hi).1⟩
theorem mem1_upd (S : SV) (gi : Nat) (v : Int32) : mem1 S gi v = upd S (94 + 4 * gi + 1) v := by
  unfold mem1
  rw [setGr_upd (j := 1) _ _ _ (by decide), setGr_gw]
set_option maxHeartbeats 4000000 in
set_option maxRecDepth 100000 in
theorem c_X8_isIn (l : Launch) (g : Gm) (M : Mem) (gi : Nat) (hg : gi < 4) (i : Nat) (hi : i < 6) (z : Nat) (hz6 : z < 64) (hz2 : M 225 (94 + 4 * gi + 1) = nI z) : Cn l yX8_isIn cX8_isIn 3 (some .boolean) 1 22 g [.ref (ad g 224), .int (nI gi), .int (nI i)] M (fun v M2 => v = some (.int (b2i (isIn (nI z) i))) ∧ M2 = M) := by
  refine Cn.intro (lv0 := [some (.ref (ad g 224)), some (.int (nI gi)), some (.int (nI i))]) 0 (by decide +kernel) (Nat.le_of_ble_eq_true rfl) rfl (fun X F r => ?_)
  have k224 := kd224
  have k225 := kd225
  refine g_aload_n (pc := 0) F dX8_isIn_0 rfl ?_
  refine g_iload_n (pc := 1) F dX8_isIn_1 rfl ?_
  refine g_iconst (pc := 2) (v := 1) F dX8_isIn_2 (by decide) ?_
  refine g_callV (pc := 3) (rf2 := 0) (rl2 := 0) F cs_X8_68 k224 rfl (by decide) (by rfl) (by rfl) (Nat.le_of_ble_eq_true (by rfl)) (by decide) dX8_isIn_3 (c_X8_ofGroup _ g _ gi hg 1 (by decide)) (fun v M2 hz => ?_)
  obtain ⟨rfl, h2⟩ := hz
  rw [h2, hz2]
  refine g_iload_n (pc := 6) F dX8_isIn_6 rfl ?_
  refine g_ishr (pc := 7) F dX8_isIn_7 ?_
  refine g_iconst (pc := 8) (v := 1) F dX8_isIn_8 (by decide) ?_
  refine g_iand (pc := 9) F dX8_isIn_9 ?_
  refine g_iconst (pc := 10) (v := 1) F dX8_isIn_10 (by decide) ?_
  refine g_icmp_ne (pc := 11) (tgt := 18) F dX8_isIn_11 (by decide) (fun c11 => ?_) (fun c11 => ?_)
  · refine g_iconst (pc := 18) (v := 0) F dX8_isIn_18 (by decide) ?_
    refine g_zret (pc := 19) F (by decide) r dX8_isIn_19 ?_
    exact ⟨by rw [show b2i (isIn (nI z) i) = 0 from if_neg (fun q => c11 ((bit_in z hz6 i hi).mpr q))], rfl⟩
  · refine g_iconst (pc := 14) (v := 1) F dX8_isIn_14 (by decide) ?_
    refine g_goto (pc := 15) (tgt := 19) F dX8_isIn_15 (by decide) ?_
    refine g_zret (pc := 19) F (by decide) r dX8_isIn_19 ?_
    exact ⟨by rw [show b2i (isIn (nI z) i) = 1 from if_pos ((bit_in z hz6 i hi).mp c11)], rfl⟩

set_option maxHeartbeats 4000000 in
set_option maxRecDepth 100000 in
theorem c_X8_join (l : Launch) (g : Gm) (M : Mem) (t : Nat) (hi : Inv (M 225) t) (ht : t ≤ 99999) (pn : Nat) (hpn4 : pn ≤ 4) (hpn : M 224 4 = nI pn) (hr : M 224 5 = 0 ∨ M 224 5 = 1) (gx x : Int32) : Cn l yX8_join cX8_join 4 (some .int) 2 44 g [.ref (ad g 224), .int gx, .int x] M (fun v M2 => v = some (.int (oJoin (M 225) gx x).1) ∧ MOK M pn (oJoin (M 225) gx x) M2) := by
  refine Cn.intro (lv0 := [some (.ref (ad g 224)), some (.int gx), some (.int x), none]) 1 (by decide +kernel) (Nat.le_of_ble_eq_true rfl) rfl (fun X F r => ?_)
  have k224 := kd224
  have k225 := kd225
  have hn := hi.cn_le
  have hm := hi.gn_le
  refine g_aload_n (pc := 0) F dX8_join_0 rfl ?_
  refine g_iload_n (pc := 1) F dX8_join_1 rfl ?_
  refine g_callV (pc := 2) (rf2 := 0) (rl2 := 0) F cs_X8_101 k224 rfl (by decide) (by rfl) (by rfl) (Nat.le_of_ble_eq_true (by rfl)) (by decide) dX8_join_2 (c_X8_isGroup _ g _ gx) (fun v M2 hz => ?_)
  obtain ⟨rfl, h2⟩ := hz
  rw [h2]
  refine g_if_eq (pc := 5) (tgt := 16) F dX8_join_5 (by decide) (fun c5 => ?_) (fun c5 => ?_)
  · refine g_ldc (pc := 16) F wk_X8_88 dX8_join_16 ?_
    refine g_iret (pc := 18) F r dX8_join_18 ?_
    have e : oJoin (M 225) gx x = (-1000001, M 225) := if_neg (fun q => b2i_0 c5 q.1)
    rw [e]
    exact ⟨rfl, Or.inl ⟨negc (by decide), rfl⟩⟩
  · refine g_aload_n (pc := 8) F dX8_join_8 rfl ?_
    refine g_iload_n (pc := 9) F dX8_join_9 rfl ?_
    refine g_callV (pc := 10) (rf2 := 0) (rl2 := 0) F cs_X8_93 k224 rfl (by decide) (by rfl) (by rfl) (Nat.le_of_ble_eq_true (by rfl)) (by decide) dX8_join_10 (c_X8_isClock _ g _ x) (fun v M2 hz => ?_)
    obtain ⟨rfl, h2⟩ := hz
    rw [h2]
    refine g_if_ne (pc := 13) (tgt := 19) F dX8_join_13 (by decide) (fun c13 => ?_) (fun c13 => ?_)
    · obtain ⟨gi, hgn, hgx⟩ := inG_ex hi (b2i_1 c5)
      obtain ⟨i, hin, hx⟩ := inC_ex hi (b2i_1 c13)
      obtain ⟨lg, z, mt, q0, q1, q2, hz6, q4, q5, q6⟩ := hi.2.2.2.2.2.2 gi hgn
      have hP : inG (M 225) gx ∧ inC (M 225) x := ⟨b2i_1 c5, b2i_1 c13⟩
      have q2' : M 225 (94 + 4 * gi + 1) = nI z := q2
      have hb := bit_in z hz6 i (by omega)
      have hxs : gx = nI gi ∧ x = nI i := ⟨hgx, hx⟩
      refine g_aload_n (pc := 19) F dX8_join_19 rfl ?_
      refine g_iload_n (pc := 20) F dX8_join_20 rfl ?_
      refine g_iconst (pc := 21) (v := 0) F dX8_join_21 (by decide) ?_
      refine g_stk (st' := [.int (nI 0), .int (nI gi), .ref (ad g 224)]) (by rw [hgx] <;> rfl) ?_
      refine g_callV (pc := 22) (rf2 := 0) (rl2 := 0) F cs_X8_68 k224 rfl (by decide) (by rfl) (by rfl) (Nat.le_of_ble_eq_true (by rfl)) (by decide) dX8_join_22 (c_X8_ofGroup _ g _ gi (by omega) 0 (by decide)) (fun v M2 hz => ?_)
      obtain ⟨rfl, h2⟩ := hz
      rw [h2]
      refine g_aload_n (pc := 25) F dX8_join_25 rfl ?_
      refine g_iload_n (pc := 26) F dX8_join_26 rfl ?_
      refine g_iconst (pc := 27) (v := 0) F dX8_join_27 (by decide) ?_
      refine g_stk (st' := [.int (nI 0), .int (nI i), .ref (ad g 224), .int (M 225 (94 + 4 * gi + 0))]) (by rw [hx] <;> rfl) ?_
      refine g_callV (pc := 28) (rf2 := 0) (rl2 := 0) F cs_X8_36 k224 rfl (by decide) (by rfl) (by rfl) (Nat.le_of_ble_eq_true (by rfl)) (by decide) dX8_join_28 (c_X8_of _ g _ i (by omega) 0 (by decide)) (fun v M2 hz => ?_)
      obtain ⟨rfl, h2⟩ := hz
      rw [h2]
      refine g_icmp_ne (pc := 31) (tgt := 43) F dX8_join_31 (by decide) (fun c31 => ?_) (fun c31 => ?_)
      · have c31 : ¬ gw (M 225) gi 0 = cw (M 225) i 0 := c31
        refine g_ldc (pc := 43) F wk_X8_108 dX8_join_43 ?_
        refine g_iret (pc := 45) F r dX8_join_45 ?_
        have e : oJoin (M 225) gx x = (-1000002, M 225) := by
          unfold oJoin
          rw [if_pos hP, hgx, hx, ixN_nI (by omega), ixN_nI (by omega), if_pos (Or.inl (fun e => c31 e.symm))]
        rw [e]
        exact ⟨rfl, Or.inl ⟨negc (by decide), rfl⟩⟩
      · have c31 : gw (M 225) gi 0 = cw (M 225) i 0 := c31
        refine g_aload_n (pc := 34) F dX8_join_34 rfl ?_
        refine g_iload_n (pc := 35) F dX8_join_35 rfl ?_
        refine g_iload_n (pc := 36) F dX8_join_36 rfl ?_
        refine g_stk (st' := [.int (nI i), .int (nI gi), .ref (ad g 224)]) (by rw [hgx, hx] <;> rfl) ?_
        refine g_callV (pc := 37) (rf2 := 1) (rl2 := 22) F cs_X8_104 k224 rfl (by decide) (by rfl) (by rfl) (Nat.le_of_ble_eq_true (by rfl)) (by decide) dX8_join_37 (c_X8_isIn _ g _ gi (by omega) i (by omega) z hz6 q2') (fun v M2 hz => ?_)
        obtain ⟨rfl, h2⟩ := hz
        rw [h2]
        refine g_if_eq (pc := 40) (tgt := 46) F dX8_join_40 (by decide) (fun c40 => ?_) (fun c40 => ?_)
        · refine g_aload_n (pc := 46) F dX8_join_46 rfl ?_
          refine g_aload_n (pc := 47) F dX8_join_47 rfl ?_
          refine g_iload_n (pc := 48) F dX8_join_48 rfl ?_
          refine g_iconst (pc := 49) (v := 1) F dX8_join_49 (by decide) ?_
          refine g_stk (st' := [.int (nI 1), .int (nI gi), .ref (ad g 224), .ref (ad g 224)]) (by rw [hgx] <;> rfl) ?_
          refine g_callV (pc := 50) (rf2 := 0) (rl2 := 0) F cs_X8_68 k224 rfl (by decide) (by rfl) (by rfl) (Nat.le_of_ble_eq_true (by rfl)) (by decide) dX8_join_50 (c_X8_ofGroup _ g _ gi (by omega) 1 (by decide)) (fun v M2 hz => ?_)
          obtain ⟨rfl, h2⟩ := hz
          rw [h2, q2']
          refine g_callV (pc := 53) (rf2 := 0) (rl2 := 0) F cs_X8_71 k224 rfl (by decide) (by rfl) (by rfl) (Nat.le_of_ble_eq_true (by rfl)) (by decide) dX8_join_53 (c_X8_ones _ g _ z hz6) (fun v M2 hz => ?_)
          obtain ⟨rfl, h2⟩ := hz
          rw [h2]
          refine g_istore_n (pc := 56) F dX8_join_56 (by decide) rfl ?_
          refine g_iload_n (pc := 57) F dX8_join_57 rfl ?_
          refine g_iconst (pc := 58) (v := 4) F dX8_join_58 (by decide) ?_
          refine g_icmp_ne (pc := 59) (tgt := 65) F dX8_join_59 (by decide) (fun c59 => ?_) (fun c59 => ?_)
          · have hno : ¬ isIn (gw (M 225) gi 1) i := by rw [q2]; exact b2i_0 c40
            have hor : ¬ (cw (M 225) i 0 ≠ gw (M 225) gi 0 ∨ isIn (gw (M 225) gi 1) i) := fun e => e.elim (fun e => e c31.symm) hno
            have h44 : pop6 z < 4 := by
              have : ¬ pop6 z = 4 := fun e => c59 (by rw [jbc_nI z hz6, e]; rfl)
              omega
            have hlt : jbc (gw (M 225) gi 1) < 4 := by
              rw [q2, jbc_nI z hz6]
              exact nI_lt (b := 4) h44 (by decide)
            refine g_aload_n (pc := 65) F dX8_join_65 rfl ?_
            refine g_callV (pc := 66) (rf2 := 0) (rl2 := 0) F cs_X8_90 k224 rfl (by decide) (by rfl) (by rfl) (Nat.le_of_ble_eq_true (by rfl)) (by decide) dX8_join_66 (c_X8_changes _ g _ pn hpn4 hpn hr) (fun v M1 hz => ?_)
            obtain ⟨rfl, hch⟩ := hz
            have e225 := hch.s
            refine g_aload_n (pc := 69) F dX8_join_69 rfl ?_
            refine g_getr (pc := 70) F fl_X8_7 (by assumption) rfl dX8_join_70 ?_
            refine g_bipush (pc := 73) (v := 94) F dX8_join_73 (by decide) ?_
            refine g_iconst (pc := 75) (v := 4) F dX8_join_75 (by decide) ?_
            refine g_iload_n (pc := 76) F dX8_join_76 rfl ?_
            refine g_imul (pc := 77) F dX8_join_77 ?_
            refine g_iadd (pc := 78) F dX8_join_78 ?_
            refine g_iconst (pc := 79) (v := 1) F dX8_join_79 (by decide) ?_
            refine g_iadd (pc := 80) F dX8_join_80 ?_
            refine g_dup2 (pc := 81) F dX8_join_81 rfl rfl ?_
            refine g_iald (pc := 82) (q := 94 + 4 * gi + 1) F k225 rfl (by rw [hgx]; exact ixG gi 1) (by omega) dX8_join_82 ?_
            refine g_iconst (pc := 83) (v := 1) F dX8_join_83 (by decide) ?_
            refine g_iload_n (pc := 84) F dX8_join_84 rfl ?_
            refine g_ishl (pc := 85) F dX8_join_85 ?_
            refine g_ior (pc := 86) F dX8_join_86 ?_
            refine g_iast (pc := 87) (q := 94 + 4 * gi + 1) F k225 rfl (by rw [hgx]; exact ixG gi 1) (by omega) dX8_join_87 ?_
            refine g_iload_n (pc := 88) F dX8_join_88 rfl ?_
            refine g_iconst (pc := 89) (v := 1) F dX8_join_89 (by decide) ?_
            refine g_iadd (pc := 90) F dX8_join_90 ?_
            refine g_iret (pc := 91) F r dX8_join_91 ?_
            have e : oJoin (M 225) gx x = (jbc (gw (M 225) gi 1 ||| (1 <<< (nI i &&& 31))), mem1 (M 225) gi (gw (M 225) gi 1 ||| (1 <<< (nI i &&& 31)))) := by
              unfold oJoin
              rw [if_pos hP, hgx, hx, ixN_nI (by omega), ixN_nI (by omega), if_neg hor, if_pos hlt]
            have hj := bit_join z hz6 i (by omega) (Classical.not_not.mp (by rw [q2] at hno; exact hno))
            rw [e]
            refine ⟨?_, Or.inr ⟨?_, M1, hch, ?_⟩⟩
            · show some (Value.int (jbc (nI z) + 1)) = some (Value.int (jbc (gw (M 225) gi 1 ||| (1 <<< (nI i &&& 31)))))
              rw [q2, hj]
            · show ¬ jbc (gw (M 225) gi 1 ||| (1 <<< (nI i &&& 31))) < 0
              rw [q2, hj, jbc_nI z hz6, nI_1]
              exact nI_nneg (by omega)
            · show upd2 M1 225 (94 + 4 * gi + 1) (M1 225 (94 + 4 * gi + 1) ||| (1 <<< (x &&& 31))) = updr M1 225 (mem1 (M 225) gi (gw (M 225) gi 1 ||| (1 <<< (nI i &&& 31))))
              rw [mem1_upd, upd2_updr, e225, hx]
              rfl
          · have hno : ¬ isIn (gw (M 225) gi 1) i := by rw [q2]; exact b2i_0 c40
            have hor : ¬ (cw (M 225) i 0 ≠ gw (M 225) gi 0 ∨ isIn (gw (M 225) gi 1) i) := fun e => e.elim (fun e => e c31.symm) hno
            have hlt : ¬ jbc (gw (M 225) gi 1) < 4 := by
              rw [q2, c59]
              decide
            refine g_ldc (pc := 62) F wk_X8_89 dX8_join_62 ?_
            refine g_iret (pc := 64) F r dX8_join_64 ?_
            have e : oJoin (M 225) gx x = (-1000003, M 225) := by
              unfold oJoin
              rw [if_pos hP, hgx, hx, ixN_nI (by omega), ixN_nI (by omega), if_neg hor, if_neg hlt]
            rw [e]
            exact ⟨rfl, Or.inl ⟨negc (by decide), rfl⟩⟩
        · refine g_ldc (pc := 43) F wk_X8_108 dX8_join_43 ?_
          refine g_iret (pc := 45) F r dX8_join_45 ?_
          have e : oJoin (M 225) gx x = (-1000002, M 225) := by
            unfold oJoin
            rw [if_pos hP, hgx, hx, ixN_nI (by omega), ixN_nI (by omega), if_pos (Or.inr (by rw [q2]; exact b2i_1 c40))]
          rw [e]
          exact ⟨rfl, Or.inl ⟨negc (by decide), rfl⟩⟩
    · skip
      refine g_ldc (pc := 16) F wk_X8_88 dX8_join_16 ?_
      refine g_iret (pc := 18) F r dX8_join_18 ?_
      have e : oJoin (M 225) gx x = (-1000001, M 225) := if_neg (fun q => b2i_0 c13 q.2)
      rw [e]
      exact ⟨rfl, Or.inl ⟨negc (by decide), rfl⟩⟩

set_option maxHeartbeats 4000000 in
set_option maxRecDepth 100000 in
theorem c_X8_leave (l : Launch) (g : Gm) (M : Mem) (t : Nat) (hi : Inv (M 225) t) (ht : t ≤ 99999) (pn : Nat) (hpn4 : pn ≤ 4) (hpn : M 224 4 = nI pn) (hr : M 224 5 = 0 ∨ M 224 5 = 1) (gx x : Int32) : Cn l yX8_leave cX8_leave 3 (some .int) 2 44 g [.ref (ad g 224), .int gx, .int x] M (fun v M2 => v = some (.int (oLeave (M 225) gx x).1) ∧ MOK M pn (oLeave (M 225) gx x) M2) := by
  refine Cn.intro (lv0 := [some (.ref (ad g 224)), some (.int gx), some (.int x)]) 0 (by decide +kernel) (Nat.le_of_ble_eq_true rfl) rfl (fun X F r => ?_)
  have k224 := kd224
  have k225 := kd225
  have hn := hi.cn_le
  have hm := hi.gn_le
  refine g_aload_n (pc := 0) F dX8_leave_0 rfl ?_
  refine g_iload_n (pc := 1) F dX8_leave_1 rfl ?_
  refine g_callV (pc := 2) (rf2 := 0) (rl2 := 0) F cs_X8_101 k224 rfl (by decide) (by rfl) (by rfl) (Nat.le_of_ble_eq_true (by rfl)) (by decide) dX8_leave_2 (c_X8_isGroup _ g _ gx) (fun v M2 hz => ?_)
  obtain ⟨rfl, h2⟩ := hz
  rw [h2]
  refine g_if_eq (pc := 5) (tgt := 16) F dX8_leave_5 (by decide) (fun c5 => ?_) (fun c5 => ?_)
  · refine g_ldc (pc := 16) F wk_X8_88 dX8_leave_16 ?_
    refine g_iret (pc := 18) F r dX8_leave_18 ?_
    have e : oLeave (M 225) gx x = (-1000001, M 225) := if_neg (fun q => b2i_0 c5 q.1)
    rw [e]
    exact ⟨rfl, Or.inl ⟨negc (by decide), rfl⟩⟩
  · refine g_aload_n (pc := 8) F dX8_leave_8 rfl ?_
    refine g_iload_n (pc := 9) F dX8_leave_9 rfl ?_
    refine g_callV (pc := 10) (rf2 := 0) (rl2 := 0) F cs_X8_93 k224 rfl (by decide) (by rfl) (by rfl) (Nat.le_of_ble_eq_true (by rfl)) (by decide) dX8_leave_10 (c_X8_isClock _ g _ x) (fun v M2 hz => ?_)
    obtain ⟨rfl, h2⟩ := hz
    rw [h2]
    refine g_if_ne (pc := 13) (tgt := 19) F dX8_leave_13 (by decide) (fun c13 => ?_) (fun c13 => ?_)
    · obtain ⟨gi, hgn, hgx⟩ := inG_ex hi (b2i_1 c5)
      obtain ⟨i, hin, hx⟩ := inC_ex hi (b2i_1 c13)
      obtain ⟨lg, z, mt, q0, q1, q2, hz6, q4, q5, q6⟩ := hi.2.2.2.2.2.2 gi hgn
      have hP : inG (M 225) gx ∧ inC (M 225) x := ⟨b2i_1 c5, b2i_1 c13⟩
      have q2' : M 225 (94 + 4 * gi + 1) = nI z := q2
      have hb := bit_in z hz6 i (by omega)
      have hxs : gx = nI gi ∧ x = nI i := ⟨hgx, hx⟩
      refine g_aload_n (pc := 19) F dX8_leave_19 rfl ?_
      refine g_iload_n (pc := 20) F dX8_leave_20 rfl ?_
      refine g_iload_n (pc := 21) F dX8_leave_21 rfl ?_
      refine g_stk (st' := [.int (nI i), .int (nI gi), .ref (ad g 224)]) (by rw [hgx, hx] <;> rfl) ?_
      refine g_callV (pc := 22) (rf2 := 1) (rl2 := 22) F cs_X8_104 k224 rfl (by decide) (by rfl) (by rfl) (Nat.le_of_ble_eq_true (by rfl)) (by decide) dX8_leave_22 (c_X8_isIn _ g _ gi (by omega) i (by omega) z hz6 q2') (fun v M2 hz => ?_)
      obtain ⟨rfl, h2⟩ := hz
      rw [h2]
      refine g_if_ne (pc := 25) (tgt := 31) F dX8_leave_25 (by decide) (fun c25 => ?_) (fun c25 => ?_)
      · refine g_aload_n (pc := 31) F dX8_leave_31 rfl ?_
        refine g_callV (pc := 32) (rf2 := 0) (rl2 := 0) F cs_X8_90 k224 rfl (by decide) (by rfl) (by rfl) (Nat.le_of_ble_eq_true (by rfl)) (by decide) dX8_leave_32 (c_X8_changes _ g _ pn hpn4 hpn hr) (fun v M1 hz => ?_)
        obtain ⟨rfl, hch⟩ := hz
        have e225 := hch.s
        refine g_aload_n (pc := 35) F dX8_leave_35 rfl ?_
        refine g_getr (pc := 36) F fl_X8_7 (by assumption) rfl dX8_leave_36 ?_
        refine g_bipush (pc := 39) (v := 94) F dX8_leave_39 (by decide) ?_
        refine g_iconst (pc := 41) (v := 4) F dX8_leave_41 (by decide) ?_
        refine g_iload_n (pc := 42) F dX8_leave_42 rfl ?_
        refine g_imul (pc := 43) F dX8_leave_43 ?_
        refine g_iadd (pc := 44) F dX8_leave_44 ?_
        refine g_iconst (pc := 45) (v := 1) F dX8_leave_45 (by decide) ?_
        refine g_iadd (pc := 46) F dX8_leave_46 ?_
        refine g_dup2 (pc := 47) F dX8_leave_47 rfl rfl ?_
        refine g_iald (pc := 48) (q := 94 + 4 * gi + 1) F k225 rfl (by rw [hgx]; exact ixG gi 1) (by omega) dX8_leave_48 ?_
        refine g_iconst (pc := 49) (v := 1) F dX8_leave_49 (by decide) ?_
        refine g_iload_n (pc := 50) F dX8_leave_50 rfl ?_
        refine g_ishl (pc := 51) F dX8_leave_51 ?_
        refine g_ixor (pc := 52) F dX8_leave_52 ?_
        refine g_iast (pc := 53) (q := 94 + 4 * gi + 1) F k225 rfl (by rw [hgx]; exact ixG gi 1) (by omega) dX8_leave_53 ?_
        obtain ⟨hlv, z', hz'6, hz'⟩ := bit_leave z hz6 i (by omega) (b2i_1 c25)
        have hm2 : upd2 M1 225 (94 + 4 * gi + 1) (M1 225 (94 + 4 * gi + 1) ^^^ (1 <<< (x &&& 31))) = upd2 M1 225 (94 + 4 * gi + 1) (nI z') := by rw [e225, q2', hx, hlv, hz']
        refine G.mem hm2 ?_
        refine g_aload_n (pc := 54) F dX8_leave_54 rfl ?_
        refine g_aload_n (pc := 55) F dX8_leave_55 rfl ?_
        refine g_iload_n (pc := 56) F dX8_leave_56 rfl ?_
        refine g_iconst (pc := 57) (v := 1) F dX8_leave_57 (by decide) ?_
        refine g_stk (st' := [.int (nI 1), .int (nI gi), .ref (ad g 224), .ref (ad g 224)]) (by rw [hgx] <;> rfl) ?_
        refine g_callV (pc := 58) (rf2 := 0) (rl2 := 0) F cs_X8_68 k224 rfl (by decide) (by rfl) (by rfl) (Nat.le_of_ble_eq_true (by rfl)) (by decide) dX8_leave_58 (c_X8_ofGroup _ g _ gi (by omega) 1 (by decide)) (fun v M2 hz => ?_)
        obtain ⟨rfl, h2⟩ := hz
        rw [h2, upd2_self]
        refine g_callV (pc := 61) (rf2 := 0) (rl2 := 0) F cs_X8_71 k224 rfl (by decide) (by rfl) (by rfl) (Nat.le_of_ble_eq_true (by rfl)) (by decide) dX8_leave_61 (c_X8_ones _ g _ z' hz'6) (fun v M2 hz => ?_)
        obtain ⟨rfl, h2⟩ := hz
        rw [h2]
        refine g_iret (pc := 64) F r dX8_leave_64 ?_
        have e : oLeave (M 225) gx x = (jbc (nI z'), mem1 (M 225) gi (nI z')) := by
          unfold oLeave
          rw [if_pos hP, hgx, hx, ixN_nI (by omega), ixN_nI (by omega), if_pos (by rw [q2]; exact b2i_1 c25), q2, hz']
        rw [e]
        refine ⟨rfl, Or.inr ⟨?_, M1, hch, ?_⟩⟩
        · show ¬ jbc (nI z') < 0
          rw [jbc_nI z' hz'6]
          have := pop6_le z' hz'6
          exact nI_nneg (by omega)
        · show upd2 M1 225 (94 + 4 * gi + 1) (nI z') = updr M1 225 (mem1 (M 225) gi (nI z'))
          rw [mem1_upd, upd2_updr, e225]
      · refine g_ldc (pc := 28) F wk_X8_108 dX8_leave_28 ?_
        refine g_iret (pc := 30) F r dX8_leave_30 ?_
        have e : oLeave (M 225) gx x = (-1000002, M 225) := by
          unfold oLeave
          rw [if_pos hP, hgx, hx, ixN_nI (by omega), ixN_nI (by omega), if_neg (by rw [q2]; exact b2i_0 c25)]
        rw [e]
        exact ⟨rfl, Or.inl ⟨negc (by decide), rfl⟩⟩
    · skip
      refine g_ldc (pc := 16) F wk_X8_88 dX8_leave_16 ?_
      refine g_iret (pc := 18) F r dX8_leave_18 ?_
      have e : oLeave (M 225) gx x = (-1000001, M 225) := if_neg (fun q => b2i_0 c13 q.2)
      rw [e]
      exact ⟨rfl, Or.inl ⟨negc (by decide), rfl⟩⟩

