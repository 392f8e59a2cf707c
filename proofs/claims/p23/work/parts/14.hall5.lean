theorem b2i_0 {P : Prop} [Decidable P] (h : b2i P = 0) : ¬ P := fun e => by unfold b2i at h; rw [if_pos e] at h; exact absurd h (by decide)
theorem b2i_1 {P : Prop} [Decidable P] (h : ¬ b2i P = 0) : P := Classical.byContradiction fun e => h (by unfold b2i; rw [if_neg e])
set_option maxHeartbeats 4000000 in
set_option maxRecDepth 100000 in
theorem c_X3_joinGroup (l : Launch) (g : Gm) (M : Mem) (h : Nat) (hk : kd h = 3) (S : SV) (t : Nat) (hr : HR M h S) (hi : Inv S t) (gx x : Int32) : Cn l yX3_joinGroup cX3_joinGroup 5 (some .int) 2 40 g [.ref (ad g h), .int gx, .int x] M (fun v M2 => v = some (.int (oJoin S gx x).1) ∧ HR M2 h (oJoin S gx x).2 ∧ frH M M2 h) := by
  refine Cn.intro (lv0 := [some (.ref (ad g h)), some (.int gx), some (.int x), none, none]) 2 (by decide +kernel) (Nat.le_of_ble_eq_true rfl) rfl (fun X F r => ?_)
  obtain ⟨hk1, hk2, hkC, hkG⟩ := kd_hall hk
  have hn := hi.cn_le
  have hm := hi.gn_le
  refine g_aload_n (pc := 0) F dX3_joinGroup_0 rfl ?_
  refine g_iload_n (pc := 1) F dX3_joinGroup_1 rfl ?_
  refine g_callV (pc := 2) (rf2 := 0) (rl2 := 0) F cs_X3_122 (by assumption) rfl (by decide) (by rfl) (by rfl) (Nat.le_of_ble_eq_true (by rfl)) (by decide) dX3_joinGroup_2 (c_X3_groupAt _ g _ h hk (gn S) hm.1 (hr.2.1.trans hm.2) gx) (fun v M2 hz => ?_)
  obtain ⟨h2, hz⟩ := hz
  rw [h2]
  rcases hz with ⟨gi, hg6, hgx, rfl⟩ | ⟨hnoG, rfl⟩
  · refine g_astore_n (pc := 5) F dX3_joinGroup_5 (by decide) rfl ?_
    refine g_aload_n (pc := 6) F dX3_joinGroup_6 rfl ?_
    refine g_iload_n (pc := 7) F dX3_joinGroup_7 rfl ?_
    refine g_callV (pc := 8) (rf2 := 0) (rl2 := 0) F cs_X3_58 (by assumption) rfl (by decide) (by rfl) (by rfl) (Nat.le_of_ble_eq_true (by rfl)) (by decide) dX3_joinGroup_8 (c_X3_clockAt _ g _ h hk (cn S) hn.1 (hr.1.trans hn.2) x) (fun v M2 hz => ?_)
    obtain ⟨h2, hz⟩ := hz
    rw [h2]
    rcases hz with ⟨i, hi6, hx, rfl⟩ | ⟨hno, rfl⟩
    · refine g_astore (pc := 11) F dX3_joinGroup_11 (by decide) rfl ?_
      refine g_aload_n (pc := 13) F dX3_joinGroup_13 rfl ?_
      refine g_ifnull (pc := 14) F dX3_joinGroup_14 ?_
      refine g_aload (pc := 17) F dX3_joinGroup_17 rfl ?_
      refine g_ifnonnull (pc := 19) (tgt := 25) F dX3_joinGroup_19 (by decide) ?_
      subst hgx
      subst hx
      have hkq := hkG gi (by omega)
      have hkc := hkC i (by omega)
      have hG := hr.2.2.2.2.2 gi hg6
      have hC := hr.2.2.2.2.1 i hi6
      have hin : inG S (nI gi) ∧ inC S (nI i) := ⟨inG_of hi hg6, inC_of hi hi6⟩
      have x1 : ixN (nI gi) = gi := ixN_nI (by omega)
      have x2 : ixN (nI i) = i := ixN_nI (by omega)
      refine g_aload (pc := 25) F dX3_joinGroup_25 rfl ?_
      refine g_geti (pc := 27) F fl_X3_68 (by assumption) rfl dX3_joinGroup_27 ?_
      refine g_aload_n (pc := 30) F dX3_joinGroup_30 rfl ?_
      refine g_geti (pc := 31) F fl_X3_126 (by assumption) rfl dX3_joinGroup_31 ?_
      refine g_icmp_ne (pc := 34) (tgt := 45) F dX3_joinGroup_34 (by decide) (fun c34 => ?_) (fun c34 => ?_)
      · refine g_ldc (pc := 45) F wk_X3_130 dX3_joinGroup_45 ?_
        refine g_iret (pc := 47) F r dX3_joinGroup_47 ?_
        have e : oJoin S (nI gi) (nI i) = (-1000002, S) := by
          unfold oJoin
          rw [x1, x2, if_pos hin]
          exact if_pos (Or.inl (fun q => c34 (by rw [hC.1, hG 0 (by decide)]; exact q)))
        rw [e]
        exact ⟨rfl, hr, frH.refl _ _⟩
      · refine g_aload_n (pc := 37) F dX3_joinGroup_37 rfl ?_
        refine g_iload_n (pc := 38) F dX3_joinGroup_38 rfl ?_
        refine g_callV (pc := 39) (rf2 := 0) (rl2 := 0) F cs_X3_127 (by assumption) rfl (by decide) (by rfl) (by rfl) (Nat.le_of_ble_eq_true (by rfl)) (by decide) dX3_joinGroup_39 (c_X2_has _ g _ (h + 27 + gi) hkq _) (fun v M2 hz => ?_)
        obtain ⟨rfl, h3⟩ := hz
        rw [h3]
        refine g_if_eq (pc := 42) (tgt := 48) F dX3_joinGroup_42 (by decide) (fun c42 => ?_) (fun c42 => ?_)
        · have hIn : ¬ isIn (gw S gi 1) i := by
            have := b2i_0 c42
            rw [hG 1 (by decide)] at this
            exact this
          refine g_aload_n (pc := 48) F dX3_joinGroup_48 rfl ?_
          refine g_callV (pc := 49) (rf2 := 1) (rl2 := 20) F cs_X3_131 (by assumption) rfl (by decide) (by rfl) (by rfl) (Nat.le_of_ble_eq_true (by rfl)) (by decide) dX3_joinGroup_49 (c_X2_size _ g _ (h + 27 + gi) hkq) (fun v M2 hz => ?_)
          obtain ⟨rfl, h3⟩ := hz
          rw [h3]
          refine g_iconst (pc := 52) (v := 4) F dX3_joinGroup_52 (by decide) ?_
          refine g_icmp_lt (pc := 53) (tgt := 59) F dX3_joinGroup_53 (by decide) (fun c53 => ?_) (fun c53 => ?_)
          · rw [hG 1 (by decide)] at c53
            refine g_aload_n (pc := 59) F dX3_joinGroup_59 rfl ?_
            refine g_dup (pc := 60) F dX3_joinGroup_60 rfl ?_
            refine g_geti (pc := 61) F fl_X3_134 (by assumption) rfl dX3_joinGroup_61 ?_
            refine g_iconst (pc := 64) (v := 1) F dX3_joinGroup_64 (by decide) ?_
            refine g_iload_n (pc := 65) F dX3_joinGroup_65 rfl ?_
            refine g_ishl (pc := 66) F dX3_joinGroup_66 ?_
            refine g_ior (pc := 67) F dX3_joinGroup_67 ?_
            refine g_puti (pc := 68) F fl_X3_134 rfl rfl (by assumption) rfl dX3_joinGroup_68 ?_
            refine g_aload_n (pc := 71) F dX3_joinGroup_71 rfl ?_
            refine g_callV (pc := 72) (rf2 := 1) (rl2 := 20) F cs_X3_131 (by assumption) rfl (by decide) (by rfl) (by rfl) (Nat.le_of_ble_eq_true (by rfl)) (by decide) dX3_joinGroup_72 (c_X2_size _ g _ (h + 27 + gi) hkq) (fun v M2 hz => ?_)
            obtain ⟨rfl, h3⟩ := hz
            rw [h3]
            refine g_iret (pc := 75) F r dX3_joinGroup_75 ?_
            have e : oJoin S (nI gi) (nI i) = (jbc (gw S gi 1 ||| (1 <<< (nI i &&& 31))), mem1 S gi (gw S gi 1 ||| (1 <<< (nI i &&& 31)))) := by
              unfold oJoin
              rw [x1, x2, if_pos hin]
              have hl : cw S i 0 = gw S gi 0 := by rw [← hC.1, ← hG 0 (by decide)]; exact c34
              rw [if_neg (fun q => q.elim (fun z => z hl) hIn), if_pos c53]
            rw [e]
            rw [upd2_self, hG 1 (by decide), upd2_updr]
            refine ⟨rfl, HR_group hr hn.1 hm.1 (by omega) (fun j hj => ?_), fun y hy => updr_ne _ _ (by omega)⟩
            rw [upd_get, upd_get, hG j hj]
          · rw [hG 1 (by decide)] at c53
            refine g_ldc (pc := 56) F wk_X3_50 dX3_joinGroup_56 ?_
            refine g_iret (pc := 58) F r dX3_joinGroup_58 ?_
            have e : oJoin S (nI gi) (nI i) = (-1000003, S) := by
              unfold oJoin
              rw [x1, x2, if_pos hin]
              have hl : cw S i 0 = gw S gi 0 := by rw [← hC.1, ← hG 0 (by decide)]; exact c34
              rw [if_neg (fun q => q.elim (fun z => z hl) hIn), if_neg c53]
            rw [e]
            exact ⟨rfl, hr, frH.refl _ _⟩
        · have hIn : isIn (gw S gi 1) i := by
            have := b2i_1 c42
            rw [hG 1 (by decide)] at this
            exact this
          refine g_ldc (pc := 45) F wk_X3_130 dX3_joinGroup_45 ?_
          refine g_iret (pc := 47) F r dX3_joinGroup_47 ?_
          have e : oJoin S (nI gi) (nI i) = (-1000002, S) := by
            unfold oJoin
            rw [x1, x2, if_pos hin]
            exact if_pos (Or.inr hIn)
          rw [e]
          exact ⟨rfl, hr, frH.refl _ _⟩
    · refine g_astoreN (pc := 11) F dX3_joinGroup_11 (by decide) rfl ?_
      refine g_aload_n (pc := 13) F dX3_joinGroup_13 rfl ?_
      refine g_ifnull (pc := 14) F dX3_joinGroup_14 ?_
      refine g_aloadN (pc := 17) F dX3_joinGroup_17 rfl ?_
      refine g_ifnonnullN (pc := 19) F dX3_joinGroup_19 ?_
      refine g_ldc (pc := 22) F wk_X3_49 dX3_joinGroup_22 ?_
      refine g_iret (pc := 24) F r dX3_joinGroup_24 ?_
      have e : oJoin S gx x = (-1000001, S) := if_neg (fun q => inC_not hi hno q.2)
      rw [e]
      exact ⟨rfl, hr, frH.refl _ _⟩
  · refine g_astore_nN (pc := 5) F dX3_joinGroup_5 (by decide) rfl ?_
    refine g_aload_n (pc := 6) F dX3_joinGroup_6 rfl ?_
    refine g_iload_n (pc := 7) F dX3_joinGroup_7 rfl ?_
    refine g_callV (pc := 8) (rf2 := 0) (rl2 := 0) F cs_X3_58 (by assumption) rfl (by decide) (by rfl) (by rfl) (Nat.le_of_ble_eq_true (by rfl)) (by decide) dX3_joinGroup_8 (c_X3_clockAt _ g _ h hk (cn S) hn.1 (hr.1.trans hn.2) x) (fun v M2 hz => ?_)
    obtain ⟨h2, hz⟩ := hz
    rw [h2]
    rcases hz with ⟨i, hi6, hx, rfl⟩ | ⟨hno, rfl⟩
    · refine g_astore (pc := 11) F dX3_joinGroup_11 (by decide) rfl ?_
      refine g_aload_nN (pc := 13) F dX3_joinGroup_13 rfl ?_
      refine g_ifnullN (pc := 14) (tgt := 22) F dX3_joinGroup_14 (by decide) ?_
      refine g_ldc (pc := 22) F wk_X3_49 dX3_joinGroup_22 ?_
      refine g_iret (pc := 24) F r dX3_joinGroup_24 ?_
      have e : oJoin S gx x = (-1000001, S) := if_neg (fun q => inG_not hi hnoG q.1)
      rw [e]
      exact ⟨rfl, hr, frH.refl _ _⟩
    · refine g_astoreN (pc := 11) F dX3_joinGroup_11 (by decide) rfl ?_
      refine g_aload_nN (pc := 13) F dX3_joinGroup_13 rfl ?_
      refine g_ifnullN (pc := 14) (tgt := 22) F dX3_joinGroup_14 (by decide) ?_
      refine g_ldc (pc := 22) F wk_X3_49 dX3_joinGroup_22 ?_
      refine g_iret (pc := 24) F r dX3_joinGroup_24 ?_
      have e : oJoin S gx x = (-1000001, S) := if_neg (fun q => inG_not hi hnoG q.1)
      rw [e]
      exact ⟨rfl, hr, frH.refl _ _⟩

set_option maxHeartbeats 4000000 in
set_option maxRecDepth 100000 in
theorem c_X3_leaveGroup (l : Launch) (g : Gm) (M : Mem) (h : Nat) (hk : kd h = 3) (S : SV) (t : Nat) (hr : HR M h S) (hi : Inv S t) (gx x : Int32) : Cn l yX3_leaveGroup cX3_leaveGroup 4 (some .int) 2 40 g [.ref (ad g h), .int gx, .int x] M (fun v M2 => v = some (.int (oLeave S gx x).1) ∧ HR M2 h (oLeave S gx x).2 ∧ frH M M2 h) := by
  refine Cn.intro (lv0 := [some (.ref (ad g h)), some (.int gx), some (.int x), none]) 1 (by decide +kernel) (Nat.le_of_ble_eq_true rfl) rfl (fun X F r => ?_)
  obtain ⟨hk1, hk2, hkC, hkG⟩ := kd_hall hk
  have hn := hi.cn_le
  have hm := hi.gn_le
  refine g_aload_n (pc := 0) F dX3_leaveGroup_0 rfl ?_
  refine g_iload_n (pc := 1) F dX3_leaveGroup_1 rfl ?_
  refine g_callV (pc := 2) (rf2 := 0) (rl2 := 0) F cs_X3_122 (by assumption) rfl (by decide) (by rfl) (by rfl) (Nat.le_of_ble_eq_true (by rfl)) (by decide) dX3_leaveGroup_2 (c_X3_groupAt _ g _ h hk (gn S) hm.1 (hr.2.1.trans hm.2) gx) (fun v M2 hz => ?_)
  obtain ⟨h2, hz⟩ := hz
  rw [h2]
  rcases hz with ⟨gi, hg6, hgx, rfl⟩ | ⟨hnoG, rfl⟩
  · refine g_astore_n (pc := 5) F dX3_leaveGroup_5 (by decide) rfl ?_
    refine g_aload_n (pc := 6) F dX3_leaveGroup_6 rfl ?_
    refine g_ifnull (pc := 7) F dX3_leaveGroup_7 ?_
    refine g_aload_n (pc := 10) F dX3_leaveGroup_10 rfl ?_
    refine g_iload_n (pc := 11) F dX3_leaveGroup_11 rfl ?_
    refine g_callV (pc := 12) (rf2 := 0) (rl2 := 0) F cs_X3_58 (by assumption) rfl (by decide) (by rfl) (by rfl) (Nat.le_of_ble_eq_true (by rfl)) (by decide) dX3_leaveGroup_12 (c_X3_clockAt _ g _ h hk (cn S) hn.1 (hr.1.trans hn.2) x) (fun v M2 hz => ?_)
    obtain ⟨h2, hz⟩ := hz
    rw [h2]
    rcases hz with ⟨i, hi6, hx, rfl⟩ | ⟨hno, rfl⟩
    · refine g_ifnonnull (pc := 15) (tgt := 21) F dX3_leaveGroup_15 (by decide) ?_
      subst hgx
      subst hx
      have hkq := hkG gi (by omega)
      have hkc := hkC i (by omega)
      have hG := hr.2.2.2.2.2 gi hg6
      have hC := hr.2.2.2.2.1 i hi6
      have hin : inG S (nI gi) ∧ inC S (nI i) := ⟨inG_of hi hg6, inC_of hi hi6⟩
      have x1 : ixN (nI gi) = gi := ixN_nI (by omega)
      have x2 : ixN (nI i) = i := ixN_nI (by omega)
      refine g_aload_n (pc := 21) F dX3_leaveGroup_21 rfl ?_
      refine g_iload_n (pc := 22) F dX3_leaveGroup_22 rfl ?_
      refine g_callV (pc := 23) (rf2 := 0) (rl2 := 0) F cs_X3_127 (by assumption) rfl (by decide) (by rfl) (by rfl) (Nat.le_of_ble_eq_true (by rfl)) (by decide) dX3_leaveGroup_23 (c_X2_has _ g _ (h + 27 + gi) hkq _) (fun v M2 hz => ?_)
      obtain ⟨rfl, h3⟩ := hz
      rw [h3]
      refine g_if_ne (pc := 26) (tgt := 32) F dX3_leaveGroup_26 (by decide) (fun c26 => ?_) (fun c26 => ?_)
      · have hIn : isIn (gw S gi 1) i := by
          have := b2i_1 c26
          rw [hG 1 (by decide)] at this
          exact this
        refine g_aload_n (pc := 32) F dX3_leaveGroup_32 rfl ?_
        refine g_dup (pc := 33) F dX3_leaveGroup_33 rfl ?_
        refine g_geti (pc := 34) F fl_X3_134 (by assumption) rfl dX3_leaveGroup_34 ?_
        refine g_iconst (pc := 37) (v := 1) F dX3_leaveGroup_37 (by decide) ?_
        refine g_iload_n (pc := 38) F dX3_leaveGroup_38 rfl ?_
        refine g_ishl (pc := 39) F dX3_leaveGroup_39 ?_
        refine g_iconst (pc := 40) (v := -1) F dX3_leaveGroup_40 (by decide) ?_
        refine g_ixor (pc := 41) F dX3_leaveGroup_41 ?_
        refine g_iand (pc := 42) F dX3_leaveGroup_42 ?_
        refine g_puti (pc := 43) F fl_X3_134 rfl rfl (by assumption) rfl dX3_leaveGroup_43 ?_
        refine g_aload_n (pc := 46) F dX3_leaveGroup_46 rfl ?_
        refine g_callV (pc := 47) (rf2 := 1) (rl2 := 20) F cs_X3_131 (by assumption) rfl (by decide) (by rfl) (by rfl) (Nat.le_of_ble_eq_true (by rfl)) (by decide) dX3_leaveGroup_47 (c_X2_size _ g _ (h + 27 + gi) hkq) (fun v M2 hz => ?_)
        obtain ⟨rfl, h3⟩ := hz
        rw [h3]
        refine g_iret (pc := 50) F r dX3_leaveGroup_50 ?_
        have e : oLeave S (nI gi) (nI i) = (jbc (gw S gi 1 &&& ((1 <<< (nI i &&& 31)) ^^^ -1)), mem1 S gi (gw S gi 1 &&& ((1 <<< (nI i &&& 31)) ^^^ -1))) := by
          unfold oLeave
          rw [x1, x2, if_pos hin]
          exact if_pos hIn
        rw [e]
        rw [upd2_self, hG 1 (by decide), upd2_updr]
        refine ⟨rfl, HR_group hr hn.1 hm.1 (by omega) (fun j hj => ?_), fun y hy => updr_ne _ _ (by omega)⟩
        rw [upd_get, upd_get, hG j hj]
      · have hIn : ¬ isIn (gw S gi 1) i := by
          have := b2i_0 c26
          rw [hG 1 (by decide)] at this
          exact this
        refine g_ldc (pc := 29) F wk_X3_130 dX3_leaveGroup_29 ?_
        refine g_iret (pc := 31) F r dX3_leaveGroup_31 ?_
        have e : oLeave S (nI gi) (nI i) = (-1000002, S) := by
          unfold oLeave
          rw [x1, x2, if_pos hin]
          exact if_neg hIn
        rw [e]
        exact ⟨rfl, hr, frH.refl _ _⟩
    · refine g_ifnonnullN (pc := 15) F dX3_leaveGroup_15 ?_
      refine g_ldc (pc := 18) F wk_X3_49 dX3_leaveGroup_18 ?_
      refine g_iret (pc := 20) F r dX3_leaveGroup_20 ?_
      have e : oLeave S gx x = (-1000001, S) := if_neg (fun q => inC_not hi hno q.2)
      rw [e]
      exact ⟨rfl, hr, frH.refl _ _⟩
  · refine g_astore_nN (pc := 5) F dX3_leaveGroup_5 (by decide) rfl ?_
    refine g_aload_nN (pc := 6) F dX3_leaveGroup_6 rfl ?_
    refine g_ifnullN (pc := 7) (tgt := 18) F dX3_leaveGroup_7 (by decide) ?_
    refine g_ldc (pc := 18) F wk_X3_49 dX3_leaveGroup_18 ?_
    refine g_iret (pc := 20) F r dX3_leaveGroup_20 ?_
    have e : oLeave S gx x = (-1000001, S) := if_neg (fun q => inG_not hi hnoG q.1)
    rw [e]
    exact ⟨rfl, hr, frH.refl _ _⟩

theorem CR_copy {M : Mem} {k o : Nat} {w : Nat → Int32} (h : CR M o w) : CR (ccpM M k o) k w := by
  unfold ccpM CR
  rw [updr_ne _ _ (show k ≠ k + 3 by omega), updr_ne _ _ (show k ≠ k + 2 by omega), updr_self, updr_ne _ _ (show k + 1 ≠ k + 3 by omega), updr_ne _ _ (show k + 1 ≠ k + 2 by omega), updr_ne _ _ (show k + 1 ≠ k by omega), updr_self, updr_ne _ _ (show k + 2 ≠ k + 3 by omega), updr_self, updr_self]
  refine CRr_rows h (fun j hj h1 => ?_) (fun j hj => ?_) (fun j hj => ?_) (fun j hj => ?_)
  · match j, hj, h1 with
    | 0, _, _ | 2, _, _ | 3, _, _ | 4, _, _ | 5, _, _ | 6, _, _ | 7, _, _ => rfl
  · unfold va_cpy
    rw [if_pos ⟨Nat.zero_le _, by omega⟩]
    congr 1
    omega
  · unfold rcopy; rw [if_pos hj]
  · unfold rcopy; rw [if_pos hj]
theorem ccpM_ne (M : Mem) (k o : Nat) {a : Nat} (h : a < k ∨ k + 4 ≤ a) : ccpM M k o a = M a := by
  unfold ccpM
  rw [updr_ne _ _ (by omega), updr_ne _ _ (by omega), updr_ne _ _ (by omega), updr_ne _ _ (by omega)]
set_option maxHeartbeats 4000000 in
set_option maxRecDepth 100000 in
theorem c_X3_copyFrom (l : Launch) (g : Gm) (M : Mem) (h o : Nat) (hk : kd h = 3) (ho : kd o = 3) (hd : h + 31 ≤ o ∨ o + 31 ≤ h) (S : SV) (t : Nat) (hr : HR M o S) (hi : Inv S t) : Cn l yX3_copyFrom cX3_copyFrom 3 none 2 61 g [.ref (ad g h), .ref (ad g o)] M (fun v M2 => v = none ∧ HR M2 h S ∧ frH M M2 h) := by
  refine Cn.intro (lv0 := [some (.ref (ad g h)), some (.ref (ad g o)), none]) 1 (by decide +kernel) (Nat.le_of_ble_eq_true rfl) rfl (fun X F r => ?_)
  obtain ⟨hk1, hk2, hkC, hkG⟩ := kd_hall hk
  obtain ⟨ho1, ho2, hoC, hoG⟩ := kd_hall ho
  have hn := hi.cn_le
  have hm := hi.gn_le
  have LG : ∀ (n i : Nat) (x : Int32) (M1 : Mem), i + n = gn S → x = nI i → M1 h 1 = S 0 → M1 h 3 = S 1 → (∀ k, k < cn S → CR M1 (h + 3 + 4 * k) (cw S k)) → (∀ k, k < i → ∀ j, j < 4 → M1 (h + 27 + k) j = gw S k j) → frH M M1 h → G X g 3 M1 55 [some (.ref (ad g h)), some (.ref (ad g o)), some (.int x)] [] := by
    intro n
    induction n with
    | zero =>
      intro i x M1 hin hx hM1 hM3 hK1 hG1 hf1
      obtain rfl : i = gn S := by omega
      refine g_iload_n (pc := 55) F dX3_copyFrom_55 rfl ?_
      refine g_aload_n (pc := 56) F dX3_copyFrom_56 rfl ?_
      refine g_geti (pc := 57) F fl_X3_36 (by assumption) rfl dX3_copyFrom_57 ?_
      refine g_icmp_ge (pc := 60) (tgt := 89) F dX3_copyFrom_60 (by decide) (fun c60 => ?_) (fun c60 => ?_)
      · refine g_aload_n (pc := 89) F dX3_copyFrom_89 rfl ?_
        refine g_aload_n (pc := 90) F dX3_copyFrom_90 rfl ?_
        refine g_geti (pc := 91) F fl_X3_42 (by assumption) rfl dX3_copyFrom_91 ?_
        refine g_puti (pc := 94) F fl_X3_42 rfl rfl (by assumption) rfl dX3_copyFrom_94 ?_
        refine g_aload_n (pc := 97) F dX3_copyFrom_97 rfl ?_
        refine g_aload_n (pc := 98) F dX3_copyFrom_98 rfl ?_
        refine g_geti (pc := 99) F fl_X3_23 (by assumption) rfl dX3_copyFrom_99 ?_
        refine g_puti (pc := 102) F fl_X3_23 rfl rfl (by assumption) rfl dX3_copyFrom_102 ?_
        refine g_vret (pc := 105) F r dX3_copyFrom_105 ?_
        refine ⟨rfl, ⟨?_, ?_, ?_, ?_, ?_, ?_⟩, ?_⟩
        · rw [upd2_j _ _ _ (by decide), upd2_j _ _ _ (by decide)]; exact hM1
        · rw [upd2_j _ _ _ (by decide), upd2_j _ _ _ (by decide), hM3]
        · rw [upd2_j _ _ _ (by decide), upd2_self, hf1 o (by omega)]; exact hr.2.2.1
        · rw [upd2_self, upd2_k _ _ _ (by omega), hf1 o (by omega)]; exact hr.2.2.2.1
        · intro k hk
          show CRr _ _ _ _ _
          rw [upd2_k _ _ _ (by omega), upd2_k _ _ _ (by omega), upd2_k _ _ _ (by omega), upd2_k _ _ _ (by omega), upd2_k _ _ _ (by omega), upd2_k _ _ _ (by omega), upd2_k _ _ _ (by omega), upd2_k _ _ _ (by omega)]
          exact hK1 k hk
        · intro k hk j hj
          rw [upd2_k _ _ _ (by omega), upd2_k _ _ _ (by omega)]
          exact hG1 k hk j hj
        · exact hf1.trans (fun y hy => (upd2_k _ _ _ (by omega)).trans (upd2_k _ _ _ (by omega)))
      · exact absurd (by rw [hM3, hm.2, hx]; exact nI_le (by omega) (by omega)) c60
    | succ n ih =>
      intro i x M1 hin hx hM1 hM3 hK1 hG1 hf1
      refine g_iload_n (pc := 55) F dX3_copyFrom_55 rfl ?_
      refine g_aload_n (pc := 56) F dX3_copyFrom_56 rfl ?_
      refine g_geti (pc := 57) F fl_X3_36 (by assumption) rfl dX3_copyFrom_57 ?_
      refine g_icmp_ge (pc := 60) (tgt := 89) F dX3_copyFrom_60 (by decide) (fun c60 => ?_) (fun c60 => ?_)
      · exact absurd c60 (by rw [hM3, hm.2, hx]; exact nI_ge (by omega) (by omega))
      · refine g_iload_n (pc := 63) F dX3_copyFrom_63 rfl ?_
        refine g_iconst (pc := 64) (v := 4) F dX3_copyFrom_64 (by decide) ?_
        refine g_icmp_ge (pc := 65) (tgt := 89) F dX3_copyFrom_65 (by decide) (fun c65 => ?_) (fun c65 => ?_)
        · exact absurd c65 (by rw [hx]; exact nI_ge (a := i) (b := 4) (by omega) (by decide))
        · refine g_aload_n (pc := 68) F dX3_copyFrom_68 rfl ?_
          refine g_getr (pc := 69) F fl_X3_19 (by assumption) rfl dX3_copyFrom_69 ?_
          refine g_iload_n (pc := 72) F dX3_copyFrom_72 rfl ?_
          refine g_aaldG (pc := 73) (q := i) (r := h + 27 + i) F hk2 hx (by omega) (by omega) dX3_copyFrom_73 ?_
          refine g_aload_n (pc := 74) F dX3_copyFrom_74 rfl ?_
          refine g_getr (pc := 75) F fl_X3_19 (by assumption) rfl dX3_copyFrom_75 ?_
          refine g_iload_n (pc := 78) F dX3_copyFrom_78 rfl ?_
          refine g_aaldG (pc := 79) (q := i) (r := o + 27 + i) F ho2 hx (by omega) (by omega) dX3_copyFrom_79 ?_
          refine g_callV (pc := 80) (rf2 := 0) (rl2 := 0) F cs_X3_39 (hkG i (by omega)) rfl (by decide) (by rfl) (by rfl) (Nat.le_of_ble_eq_true (by rfl)) (by decide) dX3_copyFrom_80 (c_X2_copyFrom _ g _ (h + 27 + i) (o + 27 + i) (hkG i (by omega)) (hoG i (by omega)) (by omega)) (fun v M2 hz => ?_)
          obtain ⟨rfl, rfl⟩ := hz
          refine g_iinc (pc := 83) F dX3_copyFrom_83 rfl rfl (by decide) rfl ?_
          refine g_goto (pc := 86) (tgt := 55) F dX3_copyFrom_86 (by decide) ?_
          refine G.sub [some (.ref (ad g h)), some (.ref (ad g o)), some (.int (x + Int32.ofInt 1))] ⟨rfl, rfl, rfl, trivial⟩ (ih (i + 1) _ _ (by omega) (by rw [hx]; exact nI_1 i) ?_ ?_ ?_ ?_ ?_)
          · rw [updr_ne _ _ (by omega)]; exact hM1
          · rw [updr_ne _ _ (by omega)]; exact hM3
          · intro k hk
            show CRr _ _ _ _ _
            rw [updr_ne _ _ (by omega), updr_ne _ _ (by omega), updr_ne _ _ (by omega), updr_ne _ _ (by omega)]
            exact hK1 k hk
          · intro k hk j hj
            by_cases hki : k = i
            · subst hki
              rw [updr_self, if_pos hj, hf1 _ (by omega)]
              exact hr.2.2.2.2.2 k (by omega) j hj
            · rw [updr_ne _ _ (by omega)]
              exact hG1 k (by omega) j hj
          · exact hf1.trans (fun y hy => updr_ne _ _ (by omega))
  have LC : ∀ (n i : Nat) (x : Int32) (M1 : Mem), i + n = cn S → x = nI i → M1 h 1 = S 0 → (∀ k, k < i → CR M1 (h + 3 + 4 * k) (cw S k)) → frH M M1 h → G X g 3 M1 10 [some (.ref (ad g h)), some (.ref (ad g o)), some (.int x)] [] := by
    intro n
    induction n with
    | zero =>
      intro i x M1 hin hx hM1 hK1 hf1
      obtain rfl : i = cn S := by omega
      refine g_iload_n (pc := 10) F dX3_copyFrom_10 rfl ?_
      refine g_aload_n (pc := 11) F dX3_copyFrom_11 rfl ?_
      refine g_geti (pc := 12) F fl_X3_29 (by assumption) rfl dX3_copyFrom_12 ?_
      refine g_icmp_ge (pc := 15) (tgt := 45) F dX3_copyFrom_15 (by decide) (fun c15 => ?_) (fun c15 => ?_)
      · refine g_aload_n (pc := 45) F dX3_copyFrom_45 rfl ?_
        refine g_aload_n (pc := 46) F dX3_copyFrom_46 rfl ?_
        refine g_geti (pc := 47) F fl_X3_36 (by assumption) rfl dX3_copyFrom_47 ?_
        refine g_puti (pc := 50) F fl_X3_36 rfl rfl (by assumption) rfl dX3_copyFrom_50 ?_
        refine g_iconst (pc := 53) (v := 0) F dX3_copyFrom_53 (by decide) ?_
        refine g_istore_n (pc := 54) F dX3_copyFrom_54 (by decide) rfl ?_
        refine LG (gn S) 0 _ _ (by omega) nI_0.symm ?_ ?_ ?_ ?_ ?_
        · rw [upd2_j _ _ _ (by decide)]; exact hM1
        · rw [upd2_self, hf1 o (by omega)]; exact hr.2.1
        · intro k hk
          show CRr _ _ _ _ _
          rw [upd2_k _ _ _ (by omega), upd2_k _ _ _ (by omega), upd2_k _ _ _ (by omega), upd2_k _ _ _ (by omega)]
          exact hK1 k (by omega)
        · intro k hk; omega
        · exact hf1.trans (fun y hy => upd2_k _ _ _ (by omega))
      · exact absurd (by rw [hM1, hn.2, hx]; exact nI_le (by omega) (by omega)) c15
    | succ n ih =>
      intro i x M1 hin hx hM1 hK1 hf1
      refine g_iload_n (pc := 10) F dX3_copyFrom_10 rfl ?_
      refine g_aload_n (pc := 11) F dX3_copyFrom_11 rfl ?_
      refine g_geti (pc := 12) F fl_X3_29 (by assumption) rfl dX3_copyFrom_12 ?_
      refine g_icmp_ge (pc := 15) (tgt := 45) F dX3_copyFrom_15 (by decide) (fun c15 => ?_) (fun c15 => ?_)
      · exact absurd c15 (by rw [hM1, hn.2, hx]; exact nI_ge (by omega) (by omega))
      · refine g_iload_n (pc := 18) F dX3_copyFrom_18 rfl ?_
        refine g_bipush (pc := 19) (v := 6) F dX3_copyFrom_19 (by decide) ?_
        refine g_icmp_ge (pc := 21) (tgt := 45) F dX3_copyFrom_21 (by decide) (fun c21 => ?_) (fun c21 => ?_)
        · exact absurd c21 (by rw [hx]; exact nI_ge (a := i) (b := 6) (by omega) (by decide))
        · refine g_aload_n (pc := 24) F dX3_copyFrom_24 rfl ?_
          refine g_getr (pc := 25) F fl_X3_11 (by assumption) rfl dX3_copyFrom_25 ?_
          refine g_iload_n (pc := 28) F dX3_copyFrom_28 rfl ?_
          refine g_aaldK (pc := 29) (q := i) (r := h + 3 + 4 * i) F hk1 hx (by omega) (by omega) dX3_copyFrom_29 ?_
          refine g_aload_n (pc := 30) F dX3_copyFrom_30 rfl ?_
          refine g_getr (pc := 31) F fl_X3_11 (by assumption) rfl dX3_copyFrom_31 ?_
          refine g_iload_n (pc := 34) F dX3_copyFrom_34 rfl ?_
          refine g_aaldK (pc := 35) (q := i) (r := o + 3 + 4 * i) F ho1 hx (by omega) (by omega) dX3_copyFrom_35 ?_
          refine g_callV (pc := 36) (rf2 := 1) (rl2 := 40) F cs_X3_32 (hkC i (by omega)) rfl (by decide) (by rfl) (by rfl) (Nat.le_of_ble_eq_true (by rfl)) (by decide) dX3_copyFrom_36 (c_X0_copyFrom _ g _ (h + 3 + 4 * i) (o + 3 + 4 * i) (hkC i (by omega)) (hoC i (by omega)) (by omega)) (fun v M2 hz => ?_)
          obtain ⟨rfl, rfl⟩ := hz
          refine g_iinc (pc := 39) F dX3_copyFrom_39 rfl rfl (by decide) rfl ?_
          refine g_goto (pc := 42) (tgt := 10) F dX3_copyFrom_42 (by decide) ?_
          refine G.sub [some (.ref (ad g h)), some (.ref (ad g o)), some (.int (x + Int32.ofInt 1))] ⟨rfl, rfl, rfl, trivial⟩ (ih (i + 1) _ _ (by omega) (by rw [hx]; exact nI_1 i) ?_ ?_ ?_)
          · rw [ccpM_ne _ _ _ (by omega)]; exact hM1
          · intro k hk
            by_cases hki : k = i
            · subst hki
              refine CR_copy ?_
              have := hr.2.2.2.2.1 k (by omega)
              show CRr _ _ _ _ _
              rw [hf1 _ (by omega), hf1 _ (by omega), hf1 _ (by omega), hf1 _ (by omega)]
              exact this
            · show CRr _ _ _ _ _
              rw [ccpM_ne _ _ _ (by omega), ccpM_ne _ _ _ (by omega), ccpM_ne _ _ _ (by omega), ccpM_ne _ _ _ (by omega)]
              exact hK1 k (by omega)
          · exact hf1.trans (fun y hy => ccpM_ne _ _ _ (by omega))
  refine g_aload_n (pc := 0) F dX3_copyFrom_0 rfl ?_
  refine g_aload_n (pc := 1) F dX3_copyFrom_1 rfl ?_
  refine g_geti (pc := 2) F fl_X3_29 (by assumption) rfl dX3_copyFrom_2 ?_
  refine g_puti (pc := 5) F fl_X3_29 rfl rfl (by assumption) rfl dX3_copyFrom_5 ?_
  refine g_iconst (pc := 8) (v := 0) F dX3_copyFrom_8 (by decide) ?_
  refine g_istore_n (pc := 9) F dX3_copyFrom_9 (by decide) rfl ?_
  refine LC (cn S) 0 _ _ (by omega) nI_0.symm ?_ ?_ ?_
  · rw [upd2_self]; exact hr.1
  · intro k hk; omega
  · exact fun y hy => upd2_k _ _ _ (by omega)
