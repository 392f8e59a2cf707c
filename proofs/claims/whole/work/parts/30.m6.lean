/-! the check: what is kept of the states before -/
def pastF (M : Mem) : Nat → SV := fun p k => M 226 (110 * p + k)
def CHG (M : Mem) (pn : Nat) (M1 : Mem) : Prop := (∀ a, a ≠ 224 → a ≠ 226 → M1 a = M a) ∧ (M 224 5 = 1 → M1 = M) ∧ (M 224 5 = 0 → M1 224 = upd (M 224) 4 (nI (pushP (pastF M) pn (M 225)).2) ∧ ∀ p, p < (pushP (pastF M) pn (M 225)).2 → ∀ k, k < 110 → pastF M1 p k = (pushP (pastF M) pn (M 225)).1 p k)
def shF (f : Nat → Int32) (n : Nat) : Nat → Int32 := fun k => if k < n then f (k + 110) else f k
theorem shF_s (f : Nat → Int32) (n : Nat) : upd (shF f n) n (shF f n (n + 110)) = shF f (n + 1) := by
  funext k
  unfold shF
  rw [upd_get]
  by_cases h : k = n
  · rw [if_pos h, if_neg (by omega), if_pos (by omega), h]
  · rw [if_neg h]
    by_cases h2 : k < n
    · rw [if_pos h2, if_pos (by omega)]
    · rw [if_neg h2, if_neg (by omega)]
def cpO (f r : Nat → Int32) (b n : Nat) : Nat → Int32 := fun k => if b ≤ k ∧ k < b + n then f (k - b) else r k
theorem cpO_s (f r : Nat → Int32) (b n : Nat) : upd (cpO f r b n) (b + n) (f n) = cpO f r b (n + 1) := by
  funext k
  unfold cpO
  rw [upd_get]
  by_cases h : k = b + n
  · rw [if_pos h, if_pos (by omega), h, show b + n - b = n by omega]
  · rw [if_neg h]
    by_cases h2 : b ≤ k ∧ k < b + n
    · rw [if_pos h2, if_pos (by omega)]
    · rw [if_neg h2, if_neg (by omega)]
theorem cpO_0 (f r : Nat → Int32) (b : Nat) : cpO f r b 0 = r := by
  funext k
  unfold cpO
  rw [if_neg (by omega)]
theorem CHG_lo {M : Mem} {pn : Nat} (h4 : pn < 4) (hr : M 224 5 = 0) : CHG M pn (upd2 (updr M 226 (cpO (M 225) (M 226) (110 * pn) 110)) 224 4 (nI (pn + 1))) := by
  have ep : pushP (pastF M) pn (M 225) = (fun k => if k = pn then M 225 else pastF M k, pn + 1) := if_pos h4
  refine ⟨fun a h1 h2 => (upd2_k _ _ _ h1).trans (updr_ne _ _ h2), fun h => absurd (hr.symm.trans h) (by decide), fun _ => ?_⟩
  rw [ep]
  refine ⟨?_, fun p hp k hk => ?_⟩
  · rw [upd2_row, updr_ne _ _ (by decide)]
  · have hp' : p < pn + 1 := hp
    show upd2 (updr M 226 (cpO (M 225) (M 226) (110 * pn) 110)) 224 4 (nI (pn + 1)) 226 (110 * p + k) = (if p = pn then M 225 else pastF M p) k
    rw [upd2_k _ _ _ (by decide), updr_self]
    unfold cpO
    by_cases h : p = pn
    · rw [if_pos h, if_pos (by subst h; omega), h, show 110 * pn + k - 110 * pn = k by omega]
    · rw [if_neg h, if_neg (by omega)]
      rfl
theorem CHG_hi {M : Mem} (hr : M 224 5 = 0) : CHG M 4 (upd2 (updr (upd2 (updr M 226 (shF (M 226) 330)) 224 4 (nI 3)) 226 (cpO (M 225) (shF (M 226) 330) 330 110)) 224 4 (nI 4)) := by
  have ep : pushP (pastF M) 4 (M 225) = (fun k => if k < 3 then pastF M (k + 1) else M 225, 4) := if_neg (by decide)
  refine ⟨fun a h1 h2 => (upd2_k _ _ _ h1).trans ((updr_ne _ _ h2).trans ((upd2_k _ _ _ h1).trans (updr_ne _ _ h2))), fun h => absurd (hr.symm.trans h) (by decide), fun _ => ?_⟩
  rw [ep]
  refine ⟨?_, fun p hp k hk => ?_⟩
  · rw [upd2_row, updr_ne _ _ (by decide), upd2_row, updr_ne _ _ (by decide)]
    funext j
    simp only [upd_get]
    split <;> rfl
  · have hp' : p < 4 := hp
    show upd2 (updr (upd2 (updr M 226 (shF (M 226) 330)) 224 4 (nI 3)) 226 (cpO (M 225) (shF (M 226) 330) 330 110)) 224 4 (nI 4) 226 (110 * p + k) = (if p < 3 then pastF M (p + 1) else M 225) k
    rw [upd2_k _ _ _ (by decide), updr_self]
    unfold cpO shF pastF
    by_cases h : p < 3
    · rw [if_pos h, if_neg (by omega), if_pos (by omega)]
      congr 1
      omega
    · rw [if_neg h, if_pos (by omega), show 110 * p + k - 330 = k by omega]
set_option maxHeartbeats 4000000 in
set_option maxRecDepth 100000 in
theorem c_X8_changes (l : Launch) (g : Gm) (M : Mem) (pn : Nat) (hpn4 : pn ≤ 4) (hpn : M 224 4 = nI pn) (hr : M 224 5 = 0 ∨ M 224 5 = 1) : Cn l yX8_changes cX8_changes 2 none 0 0 g [.ref (ad g 224)] M (fun v M2 => v = none ∧ CHG M pn M2) := by
  refine Cn.intro (lv0 := [some (.ref (ad g 224)), none]) 1 (by decide +kernel) (Nat.le_of_ble_eq_true rfl) rfl (fun X F r => ?_)
  have k224 := kd224
  have k225 := kd225
  have k226 := kd226
  have T : ∀ (M1 : Mem) (pn1 : Nat) (w1 : Option Value), pn1 ≤ 3 → M1 224 4 = nI pn1 → (none = (none : Option Value) ∧ CHG M pn (upd2 (updr M1 226 (cpO (M1 225) (M1 226) (110 * pn1) 110)) 224 4 (nI (pn1 + 1)))) → G X g 2 M1 56 [some (.ref (ad g 224)), w1] [] := by
    intro M1 pn1 w1 hpn1 hp1 hpost
    have L : ∀ (n j : Nat) (y : Int32), j + n = 110 → y = nI j → G X g 2 (updr M1 226 (cpO (M1 225) (M1 226) (110 * pn1) j)) 58 [some (.ref (ad g 224)), some (.int y)] [] := by
      intro n
      induction n with
      | zero =>
        intro j y hjn hy
        obtain rfl : j = 110 := by omega
        refine g_iload_n (pc := 58) F dX8_changes_58 rfl ?_
        refine g_bipush (pc := 59) (v := 110) F dX8_changes_59 (by decide) ?_
        refine g_icmp_ge (pc := 61) (tgt := 90) F dX8_changes_61 (by decide) (fun c61 => ?_) (fun c61 => ?_)
        · refine g_aload_n (pc := 90) F dX8_changes_90 rfl ?_
          refine g_dup (pc := 91) F dX8_changes_91 rfl ?_
          refine g_geti (pc := 92) F fl_X8_32 (by assumption) rfl dX8_changes_92 ?_
          refine g_iconst (pc := 95) (v := 1) F dX8_changes_95 (by decide) ?_
          refine g_iadd (pc := 96) F dX8_changes_96 ?_
          refine g_puti (pc := 97) F fl_X8_32 rfl rfl (by assumption) rfl dX8_changes_97 ?_
          refine g_vret (pc := 100) F r dX8_changes_100 ?_
          have e4 : updr M1 226 (cpO (M1 225) (M1 226) (110 * pn1) 110) 224 4 = nI pn1 := by rw [updr_ne _ _ (by decide)]; exact hp1
          rw [e4, nI_1]
          exact hpost
        · exact absurd (by rw [hy]; exact nI_le (a := 110) (b := 110) (by decide) (by decide)) c61
      | succ n ih =>
        intro j y hjn hy
        refine g_iload_n (pc := 58) F dX8_changes_58 rfl ?_
        refine g_bipush (pc := 59) (v := 110) F dX8_changes_59 (by decide) ?_
        refine g_icmp_ge (pc := 61) (tgt := 90) F dX8_changes_61 (by decide) (fun c61 => ?_) (fun c61 => ?_)
        · exact absurd c61 (by rw [hy]; exact nI_ge (a := j) (b := 110) (by omega) (by decide))
        · refine g_aload_n (pc := 64) F dX8_changes_64 rfl ?_
          refine g_getr (pc := 65) F fl_X8_13 (by assumption) rfl dX8_changes_65 ?_
          refine g_bipush (pc := 68) (v := 110) F dX8_changes_68 (by decide) ?_
          refine g_aload_n (pc := 70) F dX8_changes_70 rfl ?_
          refine g_geti (pc := 71) F fl_X8_32 (by assumption) rfl dX8_changes_71 ?_
          refine g_imul (pc := 74) F dX8_changes_74 ?_
          refine g_iload_n (pc := 75) F dX8_changes_75 rfl ?_
          refine g_iadd (pc := 76) F dX8_changes_76 ?_
          refine g_aload_n (pc := 77) F dX8_changes_77 rfl ?_
          refine g_getr (pc := 78) F fl_X8_7 (by assumption) rfl dX8_changes_78 ?_
          refine g_iload_n (pc := 81) F dX8_changes_81 rfl ?_
          refine g_iald (pc := 82) (q := j) F k225 rfl hy (by omega) dX8_changes_82 ?_
          refine g_iast (pc := 83) (q := 110 * pn1 + j) F k226 rfl (by rw [show updr M1 226 (cpO (M1 225) (M1 226) (110 * pn1) j) 224 4 = nI pn1 by rw [updr_ne _ _ (by decide)]; exact hp1, hy, show (110 : Int32) = nI 110 from rfl, nI_mul, nI_add]) (by omega) dX8_changes_83 ?_
          refine g_iinc (pc := 84) F dX8_changes_84 rfl rfl (by decide) rfl ?_
          refine g_goto (pc := 87) (tgt := 58) F dX8_changes_87 (by decide) ?_
          refine G.mem (M' := updr M1 226 (cpO (M1 225) (M1 226) (110 * pn1) (j + 1))) ?_ (G.sub [some (.ref (ad g 224)), some (.int (y + Int32.ofInt 1))] ⟨rfl, rfl, trivial⟩ (ih (j + 1) _ (by omega) (by rw [hy]; exact nI_1 j)))
          show upd2 (updr M1 226 _) 226 _ (updr M1 226 _ 225 j) = _
          rw [updr_upd2, updr_ne _ _ (by decide), cpO_s]
    refine g_iconst (pc := 56) (v := 0) F dX8_changes_56 (by decide) ?_
    refine g_istore_n (pc := 57) F dX8_changes_57 (by decide) rfl ?_
    refine G.mem (M' := updr M1 226 (cpO (M1 225) (M1 226) (110 * pn1) 0)) (by rw [cpO_0, updr_same]) ?_
    exact L 110 0 _ (by omega) nI0
  refine g_aload_n (pc := 0) F dX8_changes_0 rfl ?_
  refine g_geti (pc := 1) F fl_X8_28 (by assumption) rfl dX8_changes_1 ?_
  refine g_if_eq (pc := 4) (tgt := 8) F dX8_changes_4 (by decide) (fun c4 => ?_) (fun c4 => ?_)
  · have hr0 : M 224 5 = 0 := c4
    refine g_aload_n (pc := 8) F dX8_changes_8 rfl ?_
    refine g_geti (pc := 9) F fl_X8_32 (by assumption) rfl dX8_changes_9 ?_
    refine g_iconst (pc := 12) (v := 4) F dX8_changes_12 (by decide) ?_
    refine g_icmp_ne (pc := 13) (tgt := 56) F dX8_changes_13 (by decide) (fun c13 => ?_) (fun c13 => ?_)
    · have hp3 : pn ≤ 3 := by
        have : ¬ pn = 4 := fun e => c13 (by rw [hpn, e]; rfl)
        omega
      exact T M pn _ hp3 hpn ⟨rfl, CHG_lo (by omega) hr0⟩
    · obtain rfl : pn = 4 := (nI_inj (by omega) (by decide)).mp (hpn.symm.trans c13)
      have hp4 := hpn
      refine g_iconst (pc := 16) (v := 0) F dX8_changes_16 (by decide) ?_
      refine g_istore_n (pc := 17) F dX8_changes_17 (by decide) rfl ?_
      have LA : ∀ (n j : Nat) (y : Int32), j + n = 330 → y = nI j → G X g 2 (updr M 226 (shF (M 226) j)) 18 [some (.ref (ad g 224)), some (.int y)] [] := by
        intro n
        induction n with
        | zero =>
          intro j y hjn hy
          obtain rfl : j = 330 := by omega
          refine g_iload_n (pc := 18) F dX8_changes_18 rfl ?_
          refine g_sipush (pc := 19) (v := 330) F dX8_changes_19 (by decide) ?_
          refine g_icmp_ge (pc := 22) (tgt := 46) F dX8_changes_22 (by decide) (fun c22 => ?_) (fun c22 => ?_)
          · refine g_aload_n (pc := 46) F dX8_changes_46 rfl ?_
            refine g_dup (pc := 47) F dX8_changes_47 rfl ?_
            refine g_geti (pc := 48) F fl_X8_32 (by assumption) rfl dX8_changes_48 ?_
            refine g_iconst (pc := 51) (v := 1) F dX8_changes_51 (by decide) ?_
            refine g_isub (pc := 52) F dX8_changes_52 ?_
            refine g_puti (pc := 53) F fl_X8_32 rfl rfl (by assumption) rfl dX8_changes_53 ?_
            have e4 : updr M 226 (shF (M 226) 330) 224 4 = nI 4 := by rw [updr_ne _ _ (by decide)]; exact hp4
            refine G.mem (M' := upd2 (updr M 226 (shF (M 226) 330)) 224 4 (nI 3)) ?_ (T _ 3 _ (by decide) (upd2_self _ _ _ _) ⟨rfl, ?_⟩)
            · rw [e4]
              rfl
            · rw [upd2_k _ _ _ (show (225 : Nat) ≠ 224 by decide), upd2_k _ _ _ (show (226 : Nat) ≠ 224 by decide), updr_ne _ _ (show (225 : Nat) ≠ 226 by decide), updr_self]
              exact CHG_hi hr0
          · exact absurd (by rw [hy]; exact nI_le (a := 330) (b := 330) (by decide) (by decide)) c22
        | succ n ih =>
          intro j y hjn hy
          refine g_iload_n (pc := 18) F dX8_changes_18 rfl ?_
          refine g_sipush (pc := 19) (v := 330) F dX8_changes_19 (by decide) ?_
          refine g_icmp_ge (pc := 22) (tgt := 46) F dX8_changes_22 (by decide) (fun c22 => ?_) (fun c22 => ?_)
          · exact absurd c22 (by rw [hy]; exact nI_ge (a := j) (b := 330) (by omega) (by decide))
          · refine g_aload_n (pc := 25) F dX8_changes_25 rfl ?_
            refine g_getr (pc := 26) F fl_X8_13 (by assumption) rfl dX8_changes_26 ?_
            refine g_iload_n (pc := 29) F dX8_changes_29 rfl ?_
            refine g_aload_n (pc := 30) F dX8_changes_30 rfl ?_
            refine g_getr (pc := 31) F fl_X8_13 (by assumption) rfl dX8_changes_31 ?_
            refine g_iload_n (pc := 34) F dX8_changes_34 rfl ?_
            refine g_bipush (pc := 35) (v := 110) F dX8_changes_35 (by decide) ?_
            refine g_iadd (pc := 37) F dX8_changes_37 ?_
            refine g_iald (pc := 38) (q := j + 110) F k226 rfl (by rw [hy, show (110 : Int32) = nI 110 from rfl, nI_add]) (by omega) dX8_changes_38 ?_
            refine g_iast (pc := 39) (q := j) F k226 rfl hy (by omega) dX8_changes_39 ?_
            refine g_iinc (pc := 40) F dX8_changes_40 rfl rfl (by decide) rfl ?_
            refine g_goto (pc := 43) (tgt := 18) F dX8_changes_43 (by decide) ?_
            refine G.mem (M' := updr M 226 (shF (M 226) (j + 1))) ?_ (G.sub [some (.ref (ad g 224)), some (.int (y + Int32.ofInt 1))] ⟨rfl, rfl, trivial⟩ (ih (j + 1) _ (by omega) (by rw [hy]; exact nI_1 j)))
            show upd2 (updr M 226 _) 226 _ (updr M 226 _ 226 (j + 110)) = _
            rw [updr_upd2, updr_self, shF_s]
      refine G.mem (M' := updr M 226 (shF (M 226) 0)) ?_ (LA 330 0 _ (by omega) nI0)
      rw [show shF (M 226) 0 = M 226 from funext fun k => if_neg (Nat.not_lt_zero k), updr_same]
  · have hr1 : M 224 5 = 1 := hr.resolve_left c4
    refine g_vret (pc := 7) F r dX8_changes_7 ?_
    exact ⟨rfl, fun a _ _ => rfl, fun _ => rfl, fun h => absurd h c4⟩

