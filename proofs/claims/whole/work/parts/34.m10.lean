/-! the check: new groups, undo, the text -/
def gz (la : Int32) (r : Nat → Int32) (n : Nat) : Nat → Int32 := fun j => if j = 0 then la else if j < n then 0 else r j
theorem gz_s (la : Int32) (r : Nat → Int32) {n : Nat} (h1 : 1 ≤ n) : upd (gz la r n) n 0 = gz la r (n + 1) := by
  funext j
  unfold gz
  rw [upd_get]
  by_cases h : j = n
  · rw [if_pos h, if_neg (by omega), if_pos (by omega)]
  · rw [if_neg h]
    by_cases h0 : j = 0
    · rw [if_pos h0, if_pos h0]
    · rw [if_neg h0, if_neg h0]
      by_cases h2 : j < n
      · rw [if_pos h2, if_pos (by omega)]
      · rw [if_neg h2, if_neg (by omega)]
theorem gz_1 (la : Int32) (r : Nat → Int32) : upd r 0 la = gz la r 1 := by
  funext j
  unfold gz
  rw [upd_get]
  by_cases h : j = 0
  · rw [if_pos h, if_pos h]
  · rw [if_neg h, if_neg h, if_neg (by omega)]
theorem setGr_ext (S : SV) (i : Nat) {w w' : Nat → Int32} (h : ∀ j, j < 4 → w j = w' j) : setGr S i w = setGr S i w' := by
  funext k
  unfold setGr
  by_cases h2 : 94 + 4 * i ≤ k ∧ k < 98 + 4 * i
  · rw [if_pos h2, if_pos h2]
    exact h _ (by omega)
  · rw [if_neg h2, if_neg h2]
theorem gz_4 (S : SV) (i : Nat) (la : Int32) (r : Nat → Int32) : setGr S i (gz la r 4) = setGr S i (g0 la) := by
  refine setGr_ext S i (fun j hj => ?_)
  unfold gz g0
  by_cases h : j = 0
  · rw [if_pos h, if_pos h]
  · rw [if_neg h, if_neg h, if_pos hj]
theorem ixG0 (i : Nat) : (94 : Int32) + 4 * nI i = nI (94 + 4 * i + 0) := by
  rw [show (94 : Int32) = nI 94 from rfl, show (4 : Int32) = nI 4 from rfl, nI_mul, nI_add]
  rfl
theorem memGr (M : Mem) (S : SV) (i : Nat) (w : Nat → Int32) {q : Nat} (hq : q < 4) (v : Int32) : upd2 (updr M 225 (setGr S i w)) 225 (94 + 4 * i + q) v = updr M 225 (setGr S i (upd w q v)) := by
  rw [updr_upd2, setGr_upd _ _ _ hq]
theorem memG0 (M : Mem) (i : Nat) : M = updr M 225 (setGr (M 225) i (gw (M 225) i)) := by rw [setGr_gw, updr_same]
theorem lw_of {x : Int32} (h : 0 ≤ x ∧ x ≤ 2) : lawP x := h
set_option maxHeartbeats 4000000 in
set_option maxRecDepth 100000 in
theorem c_X8_group (l : Launch) (g : Gm) (M : Mem) (t : Nat) (hi : Inv (M 225) t) (ht : t ≤ 99999) (pn : Nat) (hpn4 : pn ≤ 4) (hpn : M 224 4 = nI pn) (hr : M 224 5 = 0 ∨ M 224 5 = 1) (la : Int32) : Cn l yX8_group cX8_group 4 (some .int) 1 22 g [.ref (ad g 224), .int la] M (fun v M2 => v = some (.int (oGroup (M 225) la).1) ∧ MOK M pn (oGroup (M 225) la) M2) := by
  refine Cn.intro (lv0 := [some (.ref (ad g 224)), some (.int la), none, none]) 2 (by decide +kernel) (Nat.le_of_ble_eq_true rfl) rfl (fun X F r => ?_)
  have k224 := kd224
  have k225 := kd225
  have hn := hi.cn_le
  have hm := hi.gn_le
  refine g_iload_n (pc := 0) F dX8_group_0 rfl ?_
  refine g_iconst (pc := 1) (v := 0) F dX8_group_1 (by decide) ?_
  refine g_iconst (pc := 2) (v := 2) F dX8_group_2 (by decide) ?_
  refine g_callS (pc := 3) (rf2 := 0) (rl2 := 0) F cs_X8_80 (by rfl) (by rfl) (Nat.le_of_ble_eq_true (by rfl)) (by decide) dX8_group_3 (c_X8_in _ g _ la 0 2) (fun v M2 hz => ?_)
  obtain ⟨rfl, h2⟩ := hz
  rw [h2]
  refine g_if_ne (pc := 6) (tgt := 12) F dX8_group_6 (by decide) (fun c6 => ?_) (fun c6 => ?_)
  · have hlP : lawP la := lw_of (b2i_1 c6)
    refine g_aload_n (pc := 12) F dX8_group_12 rfl ?_
    refine g_getr (pc := 13) F fl_X8_7 (by assumption) rfl dX8_group_13 ?_
    refine g_iconst (pc := 16) (v := 1) F dX8_group_16 (by decide) ?_
    refine g_iald (pc := 17) (q := 1) F k225 rfl (by decide) (by decide) dX8_group_17 ?_
    refine g_istore_n (pc := 18) F dX8_group_18 (by decide) rfl ?_
    refine g_iload_n (pc := 19) F dX8_group_19 rfl ?_
    refine g_iconst (pc := 20) (v := 4) F dX8_group_20 (by decide) ?_
    refine g_icmp_ne (pc := 21) (tgt := 27) F dX8_group_21 (by decide) (fun c21 => ?_) (fun c21 => ?_)
    · have h4 : ¬ M 225 1 = 4 := c21
      obtain ⟨k, hkc⟩ : ∃ k, k = gn (M 225) := ⟨_, rfl⟩
      have hks : M 225 1 = nI k := by rw [hkc]; exact hm.2
      have hk4 : k < 4 := by
        have : ¬ k = 4 := fun e => h4 (by rw [hks, e]; rfl)
        omega
      refine g_aload_n (pc := 27) F dX8_group_27 rfl ?_
      refine g_callV (pc := 28) (rf2 := 0) (rl2 := 0) F cs_X8_90 k224 rfl (by decide) (by rfl) (by rfl) (Nat.le_of_ble_eq_true (by rfl)) (by decide) dX8_group_28 (c_X8_changes _ g _ pn hpn4 hpn hr) (fun v M1 hz => ?_)
      obtain ⟨rfl, hch⟩ := hz
      have e225 := hch.s
      refine G.mem (memG0 M1 k) ?_
      rw [e225]
      refine g_aload_n (pc := 31) F dX8_group_31 rfl ?_
      refine g_getr (pc := 32) F fl_X8_7 (by assumption) rfl dX8_group_32 ?_
      refine g_bipush (pc := 35) (v := 94) F dX8_group_35 (by decide) ?_
      refine g_iconst (pc := 37) (v := 4) F dX8_group_37 (by decide) ?_
      refine g_iload_n (pc := 38) F dX8_group_38 rfl ?_
      refine g_imul (pc := 39) F dX8_group_39 ?_
      refine g_iadd (pc := 40) F dX8_group_40 ?_
      refine g_iload_n (pc := 41) F dX8_group_41 rfl ?_
      refine g_iast (pc := 42) (q := 94 + 4 * k + 0) F k225 rfl (by rw [hks]; exact ixG0 k) (by omega) dX8_group_42 ?_
      rw [memGr (q := 0) _ _ _ _ (by decide), gz_1]
      refine g_iconst (pc := 43) (v := 1) F dX8_group_43 (by decide) ?_
      refine g_istore_n (pc := 44) F dX8_group_44 (by decide) rfl ?_
      have L : ∀ (n j : Nat) (y : Int32), j + n = 4 → 1 ≤ j → y = nI j → G X g 4 (updr M1 225 (setGr (M 225) k (gz la (gw (M 225) k) j))) 45 [some (.ref (ad g 224)), some (.int la), some (.int (nI k)), some (.int y)] [] := by
        intro n
        induction n with
        | zero =>
          intro j y hjn hj1 hy
          obtain rfl : j = 4 := by omega
          refine g_iload_n (pc := 45) F dX8_group_45 rfl ?_
          refine g_iconst (pc := 46) (v := 4) F dX8_group_46 (by decide) ?_
          refine g_icmp_ge (pc := 47) (tgt := 70) F dX8_group_47 (by decide) (fun c47 => ?_) (fun c47 => ?_)
          · rw [gz_4]
            refine g_aload_n (pc := 70) F dX8_group_70 rfl ?_
            refine g_getr (pc := 71) F fl_X8_7 (by assumption) rfl dX8_group_71 ?_
            refine g_iconst (pc := 74) (v := 1) F dX8_group_74 (by decide) ?_
            refine g_dup2 (pc := 75) F dX8_group_75 rfl rfl ?_
            refine g_iald (pc := 76) (q := 1) F k225 rfl (by decide) (by decide) dX8_group_76 ?_
            refine g_iconst (pc := 77) (v := 1) F dX8_group_77 (by decide) ?_
            refine g_iadd (pc := 78) F dX8_group_78 ?_
            refine g_iast (pc := 79) (q := 1) F k225 rfl (by decide) (by decide) dX8_group_79 ?_
            rw [memG, show updr M1 225 (setGr (M 225) k (g0 la)) (224 + 1) 1 = M 225 1 by rw [updr_self, setGr_lo _ _ _ (by decide)]]
            refine g_iload_n (pc := 80) F dX8_group_80 rfl ?_
            refine g_iret (pc := 81) F r dX8_group_81 ?_
            have e : oGroup (M 225) la = (M 225 1, upd (setGr (M 225) k (g0 la)) 1 (M 225 1 + 1)) := by
              unfold oGroup
              rw [if_pos hlP, if_neg h4, ← hkc]
            rw [e]
            refine ⟨by rw [hks], Or.inr ⟨?_, M1, hch, rfl⟩⟩
            show ¬ M 225 1 < 0
            rw [hks]
            exact nI_nneg (by omega)
          · exact absurd (by rw [hy]; exact nI_le (a := 4) (b := 4) (by decide) (by decide)) c47
        | succ n ih =>
          intro j y hjn hj1 hy
          refine g_iload_n (pc := 45) F dX8_group_45 rfl ?_
          refine g_iconst (pc := 46) (v := 4) F dX8_group_46 (by decide) ?_
          refine g_icmp_ge (pc := 47) (tgt := 70) F dX8_group_47 (by decide) (fun c47 => ?_) (fun c47 => ?_)
          · exact absurd c47 (by rw [hy]; exact nI_ge (a := j) (b := 4) (by omega) (by decide))
          · refine g_aload_n (pc := 50) F dX8_group_50 rfl ?_
            refine g_getr (pc := 51) F fl_X8_7 (by assumption) rfl dX8_group_51 ?_
            refine g_bipush (pc := 54) (v := 94) F dX8_group_54 (by decide) ?_
            refine g_iconst (pc := 56) (v := 4) F dX8_group_56 (by decide) ?_
            refine g_iload_n (pc := 57) F dX8_group_57 rfl ?_
            refine g_imul (pc := 58) F dX8_group_58 ?_
            refine g_iadd (pc := 59) F dX8_group_59 ?_
            refine g_iload_n (pc := 60) F dX8_group_60 rfl ?_
            refine g_iadd (pc := 61) F dX8_group_61 ?_
            refine g_iconst (pc := 62) (v := 0) F dX8_group_62 (by decide) ?_
            refine g_iast (pc := 63) (q := 94 + 4 * k + j) F k225 rfl (by rw [hy]; exact ixG k j) (by omega) dX8_group_63 ?_
            rw [memGr (q := j) _ _ _ _ (by omega), gz_s la _ (by omega)]
            refine g_iinc (pc := 64) F dX8_group_64 rfl rfl (by decide) rfl ?_
            refine g_goto (pc := 67) (tgt := 45) F dX8_group_67 (by decide) ?_
            exact G.sub [some (.ref (ad g 224)), some (.int la), some (.int (nI k)), some (.int (y + Int32.ofInt 1))] ⟨rfl, rfl, rfl, rfl, trivial⟩ (ih (j + 1) _ (by omega) (by omega) (by rw [hy]; exact nI_1 j))
      rw [hks]
      exact L 3 1 _ (by decide) (by decide) nI1
    · have h4 : M 225 1 = 4 := c21
      refine g_ldc (pc := 24) F wk_X8_89 dX8_group_24 ?_
      refine g_iret (pc := 26) F r dX8_group_26 ?_
      have e : oGroup (M 225) la = (-1000003, M 225) := by
        unfold oGroup
        rw [if_pos hlP, if_pos h4]
      rw [e]
      exact ⟨rfl, Or.inl ⟨negc (by decide), rfl⟩⟩
  · have hno : ¬ lawP la := fun e => b2i_0 c6 e
    refine g_ldc (pc := 9) F wk_X8_88 dX8_group_9 ?_
    refine g_iret (pc := 11) F r dX8_group_11 ?_
    have e : oGroup (M 225) la = (-1000001, M 225) := if_neg hno
    rw [e]
    exact ⟨rfl, Or.inl ⟨negc (by decide), rfl⟩⟩

set_option maxHeartbeats 4000000 in
set_option maxRecDepth 100000 in
theorem c_X8_undo (l : Launch) (g : Gm) (M : Mem) (pn : Nat) (hpn4 : pn ≤ 4) (hpn : M 224 4 = nI pn) : Cn l yX8_undo cX8_undo 2 (some .int) 0 0 g [.ref (ad g 224)] M (fun v M2 => v = some (.int (if pn = 0 then -1000002 else nI (pn - 1))) ∧ M2 = (if pn = 0 then M else updr (upd2 M 224 4 (nI (pn - 1))) 225 (cpyF (pastF M (pn - 1)) (M 225) 110))) := by
  refine Cn.intro (lv0 := [some (.ref (ad g 224)), none]) 1 (by decide +kernel) (Nat.le_of_ble_eq_true rfl) rfl (fun X F r => ?_)
  have k224 := kd224
  have k225 := kd225
  have k226 := kd226
  refine g_aload_n (pc := 0) F dX8_undo_0 rfl ?_
  refine g_geti (pc := 1) F fl_X8_32 (by assumption) rfl dX8_undo_1 ?_
  refine g_if_ne (pc := 4) (tgt := 10) F dX8_undo_4 (by decide) (fun c4 => ?_) (fun c4 => ?_)
  · obtain ⟨p1, rfl⟩ : ∃ p1, pn = p1 + 1 := by
      refine ⟨pn - 1, ?_⟩
      have : ¬ pn = 0 := fun e => c4 (by rw [hpn, e]; rfl)
      omega
    refine g_aload_n (pc := 10) F dX8_undo_10 rfl ?_
    refine g_dup (pc := 11) F dX8_undo_11 rfl ?_
    refine g_geti (pc := 12) F fl_X8_32 (by assumption) rfl dX8_undo_12 ?_
    refine g_iconst (pc := 15) (v := 1) F dX8_undo_15 (by decide) ?_
    refine g_isub (pc := 16) F dX8_undo_16 ?_
    refine g_puti (pc := 17) F fl_X8_32 rfl rfl (by assumption) rfl dX8_undo_17 ?_
    rw [show M 224 4 - 1 = nI p1 by rw [hpn, show (1 : Int32) = nI 1 from rfl, nI_sub (by omega), Nat.add_sub_cancel]]
    refine g_iconst (pc := 20) (v := 0) F dX8_undo_20 (by decide) ?_
    refine g_istore_n (pc := 21) F dX8_undo_21 (by decide) rfl ?_
    have L : ∀ (n j : Nat) (y : Int32), j + n = 110 → y = nI j → G X g 2 (updr (upd2 M 224 4 (nI p1)) 225 (cpyF (pastF M p1) (M 225) j)) 22 [some (.ref (ad g 224)), some (.int y)] [] := by
      intro n
      induction n with
      | zero =>
        intro j y hjn hy
        obtain rfl : j = 110 := by omega
        refine g_iload_n (pc := 22) F dX8_undo_22 rfl ?_
        refine g_bipush (pc := 23) (v := 110) F dX8_undo_23 (by decide) ?_
        refine g_icmp_ge (pc := 25) (tgt := 54) F dX8_undo_25 (by decide) (fun c25 => ?_) (fun c25 => ?_)
        · refine g_aload_n (pc := 54) F dX8_undo_54 rfl ?_
          refine g_geti (pc := 55) F fl_X8_32 (by assumption) rfl dX8_undo_55 ?_
          refine g_iret (pc := 58) F r dX8_undo_58 ?_
          have e4 : updr (upd2 M 224 4 (nI p1)) 225 (cpyF (pastF M p1) (M 225) 110) 224 4 = nI p1 := by rw [updr_ne _ _ (by decide), upd2_self]
          exact ⟨by rw [if_neg (by omega), e4, Nat.add_sub_cancel], by rw [if_neg (by omega), Nat.add_sub_cancel]⟩
        · exact absurd (by rw [hy]; exact nI_le (a := 110) (b := 110) (by decide) (by decide)) c25
      | succ n ih =>
        intro j y hjn hy
        refine g_iload_n (pc := 22) F dX8_undo_22 rfl ?_
        refine g_bipush (pc := 23) (v := 110) F dX8_undo_23 (by decide) ?_
        refine g_icmp_ge (pc := 25) (tgt := 54) F dX8_undo_25 (by decide) (fun c25 => ?_) (fun c25 => ?_)
        · exact absurd c25 (by rw [hy]; exact nI_ge (a := j) (b := 110) (by omega) (by decide))
        · refine g_aload_n (pc := 28) F dX8_undo_28 rfl ?_
          refine g_getr (pc := 29) F fl_X8_7 (by assumption) rfl dX8_undo_29 ?_
          refine g_iload_n (pc := 32) F dX8_undo_32 rfl ?_
          refine g_aload_n (pc := 33) F dX8_undo_33 rfl ?_
          refine g_getr (pc := 34) F fl_X8_13 (by assumption) rfl dX8_undo_34 ?_
          refine g_bipush (pc := 37) (v := 110) F dX8_undo_37 (by decide) ?_
          refine g_aload_n (pc := 39) F dX8_undo_39 rfl ?_
          refine g_geti (pc := 40) F fl_X8_32 (by assumption) rfl dX8_undo_40 ?_
          refine g_imul (pc := 43) F dX8_undo_43 ?_
          refine g_iload_n (pc := 44) F dX8_undo_44 rfl ?_
          refine g_iadd (pc := 45) F dX8_undo_45 ?_
          refine g_iald (pc := 46) (q := 110 * p1 + j) F k226 rfl (by rw [show updr (upd2 M 224 4 (nI p1)) 225 (cpyF (pastF M p1) (M 225) j) 224 4 = nI p1 by rw [updr_ne _ _ (by decide), upd2_self], hy, show (110 : Int32) = nI 110 from rfl, nI_mul, nI_add]) (by omega) dX8_undo_46 ?_
          refine g_iast (pc := 47) (q := j) F k225 rfl hy (by omega) dX8_undo_47 ?_
          refine g_iinc (pc := 48) F dX8_undo_48 rfl rfl (by decide) rfl ?_
          refine g_goto (pc := 51) (tgt := 22) F dX8_undo_51 (by decide) ?_
          refine G.mem (M' := updr (upd2 M 224 4 (nI p1)) 225 (cpyF (pastF M p1) (M 225) (j + 1))) ?_ (G.sub [some (.ref (ad g 224)), some (.int (y + Int32.ofInt 1))] ⟨rfl, rfl, trivial⟩ (ih (j + 1) _ (by omega) (by rw [hy]; exact nI_1 j)))
          show upd2 (updr (upd2 M 224 4 (nI p1)) 225 _) 225 _ (updr (upd2 M 224 4 (nI p1)) 225 _ 226 (110 * p1 + j)) = _
          rw [updr_upd2, updr_ne _ _ (show (226 : Nat) ≠ 225 by decide), upd2_k _ _ _ (show (226 : Nat) ≠ 224 by decide), show M 226 (110 * p1 + j) = pastF M p1 j from rfl, cpyF_s]
    refine G.mem (M' := updr (upd2 M 224 4 (nI p1)) 225 (cpyF (pastF M p1) (M 225) 0)) (by rw [show cpyF (pastF M p1) (M 225) 0 = upd2 M 224 4 (nI p1) 225 from funext fun j => (if_neg (Nat.not_lt_zero j)).trans (congrFun (upd2_k M 4 (nI p1) (show (225 : Nat) ≠ 224 by decide)) j).symm, updr_same]) ?_
    exact L 110 0 _ (by omega) nI0
  · obtain rfl : pn = 0 := (nI_inj (by omega) (by decide)).mp (hpn.symm.trans c4)
    refine g_ldc (pc := 7) F wk_X8_108 dX8_undo_7 ?_
    refine g_iret (pc := 9) F r dX8_undo_9 ?_
    exact ⟨by rw [if_pos rfl], by rw [if_pos rfl]⟩

def typM (M : Mem) (tn : Nat) (x : Int32) : Mem := upd2 (upd2 M 229 tn x) 224 7 (nI (tn + 1))
set_option maxHeartbeats 4000000 in
set_option maxRecDepth 100000 in
theorem c_X8_type (l : Launch) (g : Gm) (M : Mem) (tn : Nat) (htn6 : tn ≤ 60) (htn : M 224 7 = nI tn) (x : Int32) : Cn l yX8_type cX8_type 2 (some .int) 1 22 g [.ref (ad g 224), .int x] M (fun v M2 => v = some (.int (if 32 ≤ x ∧ x ≤ 126 then (if tn < 60 then nI (tn + 1) else -1000003) else -1000001)) ∧ M2 = (if (32 ≤ x ∧ x ≤ 126) ∧ tn < 60 then typM M tn x else M)) := by
  refine Cn.intro (lv0 := [some (.ref (ad g 224)), some (.int x)]) 0 (by decide +kernel) (Nat.le_of_ble_eq_true rfl) rfl (fun X F r => ?_)
  have k224 := kd224
  have k225 := kd225
  have k229 := kd229
  refine g_iload_n (pc := 0) F dX8_type_0 rfl ?_
  refine g_bipush (pc := 1) (v := 32) F dX8_type_1 (by decide) ?_
  refine g_bipush (pc := 3) (v := 126) F dX8_type_3 (by decide) ?_
  refine g_callS (pc := 5) (rf2 := 0) (rl2 := 0) F cs_X8_80 (by rfl) (by rfl) (Nat.le_of_ble_eq_true (by rfl)) (by decide) dX8_type_5 (c_X8_in _ g _ x 32 126) (fun v M2 hz => ?_)
  obtain ⟨rfl, h2⟩ := hz
  rw [h2]
  refine g_if_ne (pc := 8) (tgt := 14) F dX8_type_8 (by decide) (fun c8 => ?_) (fun c8 => ?_)
  · refine g_aload_n (pc := 14) F dX8_type_14 rfl ?_
    refine g_geti (pc := 15) F fl_X8_148 (by assumption) rfl dX8_type_15 ?_
    refine g_bipush (pc := 18) (v := 60) F dX8_type_18 (by decide) ?_
    refine g_icmp_ne (pc := 20) (tgt := 26) F dX8_type_20 (by decide) (fun c20 => ?_) (fun c20 => ?_)
    · have htl : tn < 60 := by
        have : ¬ tn = 60 := fun e => c20 (by rw [htn, e]; rfl)
        omega
      refine g_aload_n (pc := 26) F dX8_type_26 rfl ?_
      refine g_getr (pc := 27) F fl_X8_22 (by assumption) rfl dX8_type_27 ?_
      refine g_aload_n (pc := 30) F dX8_type_30 rfl ?_
      refine g_geti (pc := 31) F fl_X8_148 (by assumption) rfl dX8_type_31 ?_
      refine g_iload_n (pc := 34) F dX8_type_34 rfl ?_
      refine g_iast (pc := 35) (q := tn) F k229 rfl htn htl dX8_type_35 ?_
      refine g_aload_n (pc := 36) F dX8_type_36 rfl ?_
      refine g_dup (pc := 37) F dX8_type_37 rfl ?_
      refine g_geti (pc := 38) F fl_X8_148 (by assumption) rfl dX8_type_38 ?_
      refine g_iconst (pc := 41) (v := 1) F dX8_type_41 (by decide) ?_
      refine g_iadd (pc := 42) F dX8_type_42 ?_
      refine g_puti (pc := 43) F fl_X8_148 rfl rfl (by assumption) rfl dX8_type_43 ?_
      refine g_aload_n (pc := 46) F dX8_type_46 rfl ?_
      refine g_geti (pc := 47) F fl_X8_148 (by assumption) rfl dX8_type_47 ?_
      refine g_iret (pc := 50) F r dX8_type_50 ?_
      have e7 : upd2 M 229 tn x 224 7 = nI tn := by rw [upd2_k _ _ _ (by decide)]; exact htn
      exact ⟨by rw [if_pos (b2i_1 c8), if_pos htl, upd2_self, e7, nI_1], by rw [if_pos ⟨b2i_1 c8, htl⟩, e7, nI_1] <;> rfl⟩
    · have htl : ¬ tn < 60 := by
        have : tn = 60 := (nI_inj (by omega) (by decide)).mp (htn.symm.trans c20)
        omega
      refine g_ldc (pc := 23) F wk_X8_89 dX8_type_23 ?_
      refine g_iret (pc := 25) F r dX8_type_25 ?_
      exact ⟨by rw [if_pos (b2i_1 c8), if_neg htl], by rw [if_neg (fun q => htl q.2)]⟩
  · refine g_ldc (pc := 11) F wk_X8_88 dX8_type_11 ?_
    refine g_iret (pc := 13) F r dX8_type_13 ?_
    exact ⟨by rw [if_neg (b2i_0 c8)], by rw [if_neg (fun q => b2i_0 c8 q.1)]⟩

set_option maxHeartbeats 4000000 in
set_option maxRecDepth 100000 in
theorem c_X8_clearText (l : Launch) (g : Gm) (M : Mem) : Cn l yX8_clearText cX8_clearText 2 (some .int) 0 0 g [.ref (ad g 224)] M (fun v M2 => v = some (.int (M 224 7)) ∧ M2 = upd2 M 224 7 0) := by
  refine Cn.intro (lv0 := [some (.ref (ad g 224)), none]) 1 (by decide +kernel) (Nat.le_of_ble_eq_true rfl) rfl (fun X F r => ?_)
  have k224 := kd224
  have k225 := kd225
  have k229 := kd229
  refine g_aload_n (pc := 0) F dX8_clearText_0 rfl ?_
  refine g_geti (pc := 1) F fl_X8_148 (by assumption) rfl dX8_clearText_1 ?_
  refine g_istore_n (pc := 4) F dX8_clearText_4 (by decide) rfl ?_
  refine g_aload_n (pc := 5) F dX8_clearText_5 rfl ?_
  refine g_iconst (pc := 6) (v := 0) F dX8_clearText_6 (by decide) ?_
  refine g_puti (pc := 7) F fl_X8_148 rfl rfl (by assumption) rfl dX8_clearText_7 ?_
  refine g_iload_n (pc := 10) F dX8_clearText_10 rfl ?_
  refine g_iret (pc := 11) F r dX8_clearText_11 ?_
  exact ⟨rfl, rfl⟩

