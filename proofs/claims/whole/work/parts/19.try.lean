/-! the orders of a text, tried -/
/-- what a trial tells: the state, how many are done, the reason (0: no fault), where the order at fault begins, the cause -/
abbrev TO : Type := SV × Nat × Int32 × Nat × Int32
/-- from p on, with m done; f bounds how many -/
noncomputable def tryS (s : Nat → Int32) (tn : Nat) : Nat → SV → Nat → Nat → TO
  | 0, S, p, m => (S, m, 0, p, 0)
  | f + 1, S, p, m => if p < tn then
      (if (rdO s p (fun _ => 0)).1 = true then
        (if (oObey S (s p) (rdO s p (fun _ => 0)).2.2).1 < 0 then (S, m, 2, p, (oObey S (s p) (rdO s p (fun _ => 0)).2.2).1)
         else tryS s tn f (oObey S (s p) (rdO s p (fun _ => 0)).2.2).2 (rdO s p (fun _ => 0)).2.1 (m + 1))
       else (S, m, 1, p, nI ((rdO s p (fun _ => 0)).2.1 - p)))
      else (S, m, 0, p, 0)
/-- the whole text -/
noncomputable def tryT (tx : Nat → Int32) (tn : Nat) (S : SV) : TO := tryS (sgn tx tn) tn 60 S 0 0
theorem rdO_in {tx : Nat → Int32} {tn p : Nat} (hp : p < tn) (nb : Nat → Int32) : p ≤ (rdO (sgn tx tn) p nb).2.1 ∧ (rdO (sgn tx tn) p nb).2.1 ≤ tn ∧ ((rdO (sgn tx tn) p nb).1 = true → p < (rdO (sgn tx tn) p nb).2.1) := by
  unfold rdO
  by_cases hw : wants (sgn tx tn p) = 0
  · rw [if_pos hw]
    exact ⟨Nat.le_refl _, by show p ≤ tn; omega, fun e => by cases e⟩
  · rw [if_neg hw]
    have := rdN_in (tx := tx) (tn := tn) (wants (sgn tx tn p)) (wants (sgn tx tn p)) (p + 1) nb (by omega)
    exact ⟨by omega, this.2, fun _ => by omega⟩
theorem rdO_ok_wants {s : Nat → Int32} {p : Nat} {nb : Nat → Int32} (h : (rdO s p nb).1 = true) : ¬ wants (s p) = 0 := by
  intro hw
  unfold rdO at h
  rw [if_pos hw] at h
  cases h
set_option maxHeartbeats 4000000 in
set_option maxRecDepth 100000 in
theorem c_X5_tryOut (l : Launch) (g : Gm) (M : Mem) (tx : Nat → Int32) (tn : Nat) (hT : TR M tx tn) (hI : TI tx tn) (h th : Nat) (hk : kd h = 3) (hkt : kd th = 3) (hd : th + 31 ≤ h ∨ h + 31 ≤ th) (S : SV) (t : Nat) (hr : HR M h S) (hi : Inv S t) (ht : t ≤ 99999) : Cn l yX5_tryOut cX5_tryOut 5 none 5 115 g [.ref (ad g 222), .ref (ad g h), .ref (ad g th)] M (fun v M2 => v = none ∧ (∀ a, a ≠ 222 → a ≠ 223 → (a < th ∨ th + 31 ≤ a) → M2 a = M a) ∧ HR M2 th (tryT tx tn S).1 ∧ InvE (tryT tx tn S).1 ∧ M2 222 5 = (tryT tx tn S).2.2.1 ∧ ((tryT tx tn S).2.2.1 = 0 → M2 222 4 = nI (tryT tx tn S).2.1 ∧ (tryT tx tn S).2.1 ≤ 60) ∧ (¬ (tryT tx tn S).2.2.1 = 0 → M2 222 2 = nI (tryT tx tn S).2.2.2.1 ∧ M2 222 6 = (tryT tx tn S).2.2.2.2)) := by
  refine Cn.intro (lv0 := [some (.ref (ad g 222)), some (.ref (ad g h)), some (.ref (ad g th)), none, none]) 2 (by decide +kernel) (Nat.le_of_ble_eq_true rfl) rfl (fun X F r => ?_)
  have k220 := kd220
  have k221 := kd221
  have k222 := kd222
  have k223 := kd223
  have htn60 := hT.1
  have hth : th + 31 ≤ 220 := by
    have : ∀ k, k < 231 → kd k = 3 → k + 31 ≤ 220 := by decide +kernel
    exact this th (kd_lt hkt (by decide)) hkt
  have L : ∀ (n i : Nat) (y : Int32) (M1 : Mem) (S1 : SV) (p m : Nat), i + n = 60 → y = nI i → m ≤ i → i ≤ p → p ≤ tn → (∀ a, a ≠ 222 → a ≠ 223 → (a < th ∨ th + 31 ≤ a) → M1 a = M a) → HR M1 th S1 → InvE S1 → M1 222 3 = nI p → M1 222 4 = nI m → M1 222 5 = 0 → tryT tx tn S = tryS (sgn tx tn) tn n S1 p m → G X g 5 M1 22 [some (.ref (ad g 222)), some (.ref (ad g h)), some (.ref (ad g th)), some (.int y), none] [] := by
    intro n
    induction n with
    | zero =>
      intro i y M1 S1 p m hin hy hmi hip hpn0 hf1 hr1 hi1 h3 h4 h5 hR
      refine g_iload_n (pc := 22) F dX5_tryOut_22 rfl ?_
      refine g_bipush (pc := 23) (v := 60) F dX5_tryOut_23 (by decide) ?_
      refine g_icmp_ge (pc := 25) (tgt := 108) F dX5_tryOut_25 (by decide) (fun c25 => ?_) (fun c25 => ?_)
      · refine g_vret (pc := 108) F r dX5_tryOut_108 ?_
        have hR0 : tryT tx tn S = (S1, m, 0, p, 0) := hR
        rw [hR0]
        refine ⟨rfl, hf1, hr1, hi1, h5, fun _ => ⟨h4, by show m ≤ 60; omega⟩, fun e => absurd rfl e⟩
      · exact absurd (by rw [hy]; exact nI_le (a := 60) (b := i) (by omega) (by omega)) c25
    | succ n ih =>
      intro i y M1 S1 p m hin hy hmi hip hpn0 hf1 hr1 hi1 h3 h4 h5 hR
      refine g_iload_n (pc := 22) F dX5_tryOut_22 rfl ?_
      refine g_bipush (pc := 23) (v := 60) F dX5_tryOut_23 (by decide) ?_
      refine g_icmp_ge (pc := 25) (tgt := 108) F dX5_tryOut_25 (by decide) (fun c25 => ?_) (fun c25 => ?_)
      · exact absurd c25 (by rw [hy]; exact nI_ge (a := i) (b := 60) (by omega) (by decide))
      · refine g_aload_n (pc := 28) F dX5_tryOut_28 rfl ?_
        refine g_geti (pc := 29) F fl_X5_25 (by assumption) rfl dX5_tryOut_29 ?_
        refine g_aload_n (pc := 32) F dX5_tryOut_32 rfl ?_
        refine g_getr (pc := 33) F fl_X5_15 (by assumption) rfl dX5_tryOut_33 ?_
        refine g_geti (pc := 36) F fl_X5_35 (by assumption) rfl dX5_tryOut_36 ?_
        refine g_stk (st' := [.int (nI tn), .int (nI p)]) (by rw [h3, (hT.row (hf1 220 (by decide) (by decide) (by omega)) (hf1 221 (by decide) (by decide) (by omega))).2.1]) ?_
        refine g_icmp_ge (pc := 39) (tgt := 108) F dX5_tryOut_39 (by decide) (fun c39 => ?_) (fun c39 => ?_)
        · have hpn : ¬ p < tn := fun e => nI_ge e (by omega) c39
          refine g_vret (pc := 108) F r dX5_tryOut_108 ?_
          have hR0 : tryT tx tn S = (S1, m, 0, p, 0) := by
            rw [hR]
            unfold tryS
            rw [if_neg hpn]
          rw [hR0]
          refine ⟨rfl, hf1, hr1, hi1, h5, fun _ => ⟨h4, by show m ≤ 60; omega⟩, fun e => absurd rfl e⟩
        · have hpn : p < tn := (nI_ltI (by omega) (by omega)).mp (Int32.not_le.mp c39)
          refine g_aload_n (pc := 42) F dX5_tryOut_42 rfl ?_
          refine g_aload_n (pc := 43) F dX5_tryOut_43 rfl ?_
          refine g_geti (pc := 44) F fl_X5_25 (by assumption) rfl dX5_tryOut_44 ?_
          refine g_puti (pc := 47) F fl_X5_40 rfl rfl (by assumption) rfl dX5_tryOut_47 ?_
          refine g_aload_n (pc := 50) F dX5_tryOut_50 rfl ?_
          have hA : M1 222 3 = nI p := h3
          generalize hM2 : upd2 M1 222 2 (M1 222 3) = M2a
          have e220 : M2a 220 = M1 220 := by rw [← hM2]; exact upd2_k _ _ _ (by decide)
          have e221 : M2a 221 = M1 221 := by rw [← hM2]; exact upd2_k _ _ _ (by decide)
          have e223 : M2a 223 = M1 223 := by rw [← hM2]; exact upd2_k _ _ _ (by decide)
          have e222 : M2a 222 = upd (M1 222) 2 (nI p) := by rw [← hM2, upd2_row, hA]
          have eo : ∀ a, a ≠ 222 → M2a a = M1 a := fun a ha => by rw [← hM2]; exact upd2_k _ _ _ ha
          have hT2 := (hT.row (hf1 220 (by decide) (by decide) (by omega)) (hf1 221 (by decide) (by decide) (by omega))).row e220 e221
          refine g_callV (pc := 51) (rf2 := 2) (rl2 := 44) F cs_X5_43 k222 rfl (by decide) (by rfl) (by rfl) (Nat.le_of_ble_eq_true (by rfl)) (by decide) dX5_tryOut_51 (c_X5_readOrder _ g _ tx tn hT2 hI p (by rw [e222, upd_self]) (by rw [e222, upd_ne _ _ (by decide)]; exact hA) hpn) (fun v M3 hz => ?_)
          obtain ⟨rfl, z1, z2, z3⟩ := hz
          obtain ⟨ag1, ag2, ag3⟩ := rdO_agree (sgn tx tn) p (M2a 223) (fun _ => 0)
          obtain ⟨in1, in2, in3⟩ := rdO_in (tx := tx) hpn (fun _ => 0)
          refine g_if_ne (pc := 54) (tgt := 72) F dX5_tryOut_54 (by decide) (fun c54 => ?_) (fun c54 => ?_)
          · have hok : (rdO (sgn tx tn) p (fun _ => 0)).1 = true := Classical.byContradiction fun e => by
              rw [ag1, if_neg e] at c54
              exact c54 rfl
            have hT3 := hT2.row (z1 220 (by decide) (by decide)) (z1 221 (by decide) (by decide))
            have hr3 : HR M3 th S1 := HR_row hr1 (by have := hi1.choose_spec.2.cn_le.1; exact this) (by have := hi1.choose_spec.2.gn_le.1; exact this) (fun a a1 a2 => (z1 a (by omega) (by omega)).trans (eo a (by omega)))
            obtain ⟨t1, ht1, hiv⟩ := hi1
            have hst3 : M3 222 2 = nI p := by rw [z2, upd_ne _ _ (by decide), e222, upd_self]
            have hob : oObey S1 (sgn tx tn p) (M3 223) = oObey S1 (sgn tx tn p) (rdO (sgn tx tn) p (fun _ => 0)).2.2 := oObey_agree S1 (rdO_ok_wants hok) (fun j hj => by rw [z3]; exact ag3 (ag1.trans hok) j hj)
            have hokR := ok_obey hiv ht1 (sgn tx tn p) (rdO (sgn tx tn) p (fun _ => 0)).2.2
            refine g_aload_n (pc := 72) F dX5_tryOut_72 rfl ?_
            refine g_aload_n (pc := 73) F dX5_tryOut_73 rfl ?_
            refine g_callV (pc := 74) (rf2 := 4) (rl2 := 94) F cs_X5_51 k222 rfl (by decide) (by rfl) (by rfl) (Nat.le_of_ble_eq_true (by rfl)) (by decide) dX5_tryOut_74 (c_X5_obey _ g _ tx tn hT3 hI p hst3 hpn th hkt S1 t1 hr3 hiv) (fun v M4 hz => ?_)
            obtain ⟨rfl, w1, w2⟩ := hz
            rw [hob] at w1
            refine g_istore (pc := 77) F dX5_tryOut_77 (by decide) rfl ?_
            refine g_iload (pc := 79) F dX5_tryOut_79 rfl ?_
            refine g_if_ge (pc := 81) (tgt := 92) F dX5_tryOut_81 (by decide) (fun c81 => ?_) (fun c81 => ?_)
            · rw [hob] at c81
              refine g_aload_n (pc := 92) F dX5_tryOut_92 rfl ?_
              refine g_dup (pc := 93) F dX5_tryOut_93 rfl ?_
              refine g_geti (pc := 94) F fl_X5_29 (by assumption) rfl dX5_tryOut_94 ?_
              refine g_iconst (pc := 97) (v := 1) F dX5_tryOut_97 (by decide) ?_
              refine g_iadd (pc := 98) F dX5_tryOut_98 ?_
              refine g_puti (pc := 99) F fl_X5_29 rfl rfl (by assumption) rfl dX5_tryOut_99 ?_
              refine g_iinc (pc := 102) F dX5_tryOut_102 rfl rfl (by decide) rfl ?_
              refine g_goto (pc := 105) (tgt := 22) F dX5_tryOut_105 (by decide) ?_
              have hge : ¬ (oObey S1 (sgn tx tn p) (rdO (sgn tx tn) p (fun _ => 0)).2.2).1 < 0 := Int32.not_lt.mpr c81
              refine G.sub [some (.ref (ad g 222)), some (.ref (ad g h)), some (.ref (ad g th)), some (.int (y + Int32.ofInt 1)), none] ⟨rfl, rfl, rfl, rfl, trivial⟩ (ih (i + 1) _ _ _ (rdO (sgn tx tn) p (fun _ => 0)).2.1 (m + 1) (by omega) (by rw [hy]; exact nI_1 i) (by omega) (by have := in3 hok; omega) in2 ?_ ?_ hokR.1 ?_ ?_ ?_ ?_)
              · intro a a1 a2 a3
                exact (upd2_k _ _ _ a1).trans ((w2 a a3).trans ((z1 a a1 a2).trans ((eo a a1).trans (hf1 a a1 a2 a3))))
              · obtain ⟨t2, ht2, hiv2⟩ := hokR.1
                exact HR_row w1 hiv2.cn_le.1 hiv2.gn_le.1 (fun a a1 a2 => upd2_k _ _ _ (by omega))
              · rw [upd2_j _ _ _ (by decide), w2 222 (by omega), z2, upd_self, ag2]
              · rw [upd2_self, w2 222 (by omega), z2, upd_ne _ _ (by decide), e222, upd_ne _ _ (by decide), h4, nI_1]
              · rw [upd2_j _ _ _ (by decide), w2 222 (by omega), z2, upd_ne _ _ (by decide), e222, upd_ne _ _ (by decide), h5]
              · rw [hR]
                conv => lhs; unfold tryS
                rw [if_pos hpn, if_pos hok, if_neg hge]
            · rw [hob] at c81
              have hneg := Int32.not_le.mp c81
              refine g_aload_n (pc := 84) F dX5_tryOut_84 rfl ?_
              refine g_iconst (pc := 85) (v := 2) F dX5_tryOut_85 (by decide) ?_
              refine g_iload (pc := 86) F dX5_tryOut_86 rfl ?_
              refine g_callV (pc := 88) (rf2 := 0) (rl2 := 0) F cs_X5_47 k222 rfl (by decide) (by rfl) (by rfl) (Nat.le_of_ble_eq_true (by rfl)) (by decide) dX5_tryOut_88 (c_X5_setFault _ g _ _ _) (fun v M5 hz => ?_)
              obtain ⟨rfl, y1⟩ := hz
              refine g_vret (pc := 91) F r dX5_tryOut_91 ?_
              have hR0 : tryT tx tn S = (S1, m, 2, p, (oObey S1 (sgn tx tn p) (rdO (sgn tx tn) p (fun _ => 0)).2.2).1) := by
                rw [hR]
                unfold tryS
                rw [if_pos hpn, if_pos hok, if_pos hneg]
              rw [hR0, y1]
              have hS' : (oObey S1 (sgn tx tn p) (rdO (sgn tx tn) p (fun _ => 0)).2.2).2 = S1 := hokR.2.elim (fun q => absurd hneg q) (fun q => q.2)
              rw [hS'] at w1
              refine ⟨rfl, fun a a1 a2 a3 => ?_, HR_row w1 hiv.cn_le.1 hiv.gn_le.1 (fun a a1 a2 => ?_), ⟨t1, ht1, hiv⟩, ?_, fun e => absurd e (show ¬ (2 : Int32) = 0 by decide), fun _ => ⟨?_, ?_⟩⟩
              · exact (upd2_k _ _ _ a1).trans ((upd2_k _ _ _ a1).trans ((w2 a a3).trans ((z1 a a1 a2).trans ((eo a a1).trans (hf1 a a1 a2 a3)))))
              · exact (upd2_k _ _ _ (by omega)).trans (upd2_k _ _ _ (by omega))
              · rw [upd2_j _ _ _ (by decide), upd2_self]
              · rw [upd2_j _ _ _ (by decide), upd2_j _ _ _ (by decide), w2 222 (by omega)]; exact hst3
              · rw [upd2_self, hob]
          · have hno : ¬ (rdO (sgn tx tn) p (fun _ => 0)).1 = true := fun e => by
              rw [ag1, if_pos e] at c54
              exact absurd c54 (by decide)
            refine g_aload_n (pc := 57) F dX5_tryOut_57 rfl ?_
            refine g_iconst (pc := 58) (v := 1) F dX5_tryOut_58 (by decide) ?_
            refine g_aload_n (pc := 59) F dX5_tryOut_59 rfl ?_
            refine g_geti (pc := 60) F fl_X5_25 (by assumption) rfl dX5_tryOut_60 ?_
            refine g_aload_n (pc := 63) F dX5_tryOut_63 rfl ?_
            refine g_geti (pc := 64) F fl_X5_40 (by assumption) rfl dX5_tryOut_64 ?_
            refine g_isub (pc := 67) F dX5_tryOut_67 ?_
            refine g_callV (pc := 68) (rf2 := 0) (rl2 := 0) F cs_X5_47 k222 rfl (by decide) (by rfl) (by rfl) (Nat.le_of_ble_eq_true (by rfl)) (by decide) dX5_tryOut_68 (c_X5_setFault _ g _ _ _) (fun v M5 hz => ?_)
            obtain ⟨rfl, y1⟩ := hz
            refine g_vret (pc := 71) F r dX5_tryOut_71 ?_
            have hR0 : tryT tx tn S = (S1, m, 1, p, nI ((rdO (sgn tx tn) p (fun _ => 0)).2.1 - p)) := by
              rw [hR]
              unfold tryS
              rw [if_pos hpn, if_neg hno]
            rw [hR0, y1]
            have hr3 : HR M3 th S1 := HR_row hr1 (by have := hi1.choose_spec.2.cn_le.1; exact this) (by have := hi1.choose_spec.2.gn_le.1; exact this) (fun a a1 a2 => (z1 a (by omega) (by omega)).trans (eo a (by omega)))
            refine ⟨rfl, fun a a1 a2 a3 => ?_, HR_row hr3 (by have := hi1.choose_spec.2.cn_le.1; exact this) (by have := hi1.choose_spec.2.gn_le.1; exact this) (fun a a1 a2 => ?_), hi1, ?_, fun e => absurd e (show ¬ (1 : Int32) = 0 by decide), fun _ => ⟨?_, ?_⟩⟩
            · exact (upd2_k _ _ _ a1).trans ((upd2_k _ _ _ a1).trans ((z1 a a1 a2).trans ((eo a a1).trans (hf1 a a1 a2 a3))))
            · exact (upd2_k _ _ _ (by omega)).trans (upd2_k _ _ _ (by omega))
            · rw [upd2_j _ _ _ (by decide), upd2_self]
            · rw [upd2_j _ _ _ (by decide), upd2_j _ _ _ (by decide), z2, upd_ne _ _ (by decide), e222, upd_self]
            · rw [upd2_self, z2, upd_self, upd_ne _ _ (by decide), e222, upd_self, ag2, nI_sub in1]
  refine g_aload_n (pc := 0) F dX5_tryOut_0 rfl ?_
  refine g_aload_n (pc := 1) F dX5_tryOut_1 rfl ?_
  refine g_callV (pc := 2) (rf2 := 2) (rl2 := 61) F cs_X5_19 hkt rfl (by decide) (by rfl) (by rfl) (Nat.le_of_ble_eq_true (by rfl)) (by decide) dX5_tryOut_2 (c_X3_copyFrom _ g _ th h hkt hk hd S t hr hi) (fun v M0 hz => ?_)
  obtain ⟨rfl, x1, x2⟩ := hz
  refine g_aload_n (pc := 5) F dX5_tryOut_5 rfl ?_
  refine g_iconst (pc := 6) (v := 0) F dX5_tryOut_6 (by decide) ?_
  refine g_puti (pc := 7) F fl_X5_25 rfl rfl (by assumption) rfl dX5_tryOut_7 ?_
  refine g_aload_n (pc := 10) F dX5_tryOut_10 rfl ?_
  refine g_iconst (pc := 11) (v := 0) F dX5_tryOut_11 (by decide) ?_
  refine g_puti (pc := 12) F fl_X5_29 rfl rfl (by assumption) rfl dX5_tryOut_12 ?_
  refine g_aload_n (pc := 15) F dX5_tryOut_15 rfl ?_
  refine g_iconst (pc := 16) (v := 0) F dX5_tryOut_16 (by decide) ?_
  refine g_puti (pc := 17) F fl_X5_32 rfl rfl (by assumption) rfl dX5_tryOut_17 ?_
  refine g_iconst (pc := 20) (v := 0) F dX5_tryOut_20 (by decide) ?_
  refine g_istore_n (pc := 21) F dX5_tryOut_21 (by decide) rfl ?_
  refine L 60 0 0 _ S 0 0 (by omega) nI_0.symm (Nat.le_refl _) (Nat.le_refl _) (Nat.zero_le _) ?_ ?_ ⟨t, ht, hi⟩ ?_ ?_ ?_ rfl
  · intro a a1 a2 a3
    exact (upd2_k _ _ _ a1).trans ((upd2_k _ _ _ a1).trans ((upd2_k _ _ _ a1).trans (x2 a a3)))
  · exact HR_row x1 hi.cn_le.1 hi.gn_le.1 (fun a a1 a2 => (upd2_k _ _ _ (by omega)).trans ((upd2_k _ _ _ (by omega)).trans (upd2_k _ _ _ (by omega))))
  · rw [upd2_j _ _ _ (by decide), upd2_j _ _ _ (by decide), upd2_self]; exact nI0
  · rw [upd2_j _ _ _ (by decide), upd2_self]; exact nI0
  · rw [upd2_self]

