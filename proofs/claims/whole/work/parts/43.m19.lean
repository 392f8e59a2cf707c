/-! the check: the orders of the text, one behind the other -/
abbrev plF (M M2 : Mem) (pn tn : Nat) (r : Int32) : Prop := (∀ a, a ≠ 224 → a ≠ 225 → a ≠ 230 → M2 a = M a) ∧ M2 224 4 = nI pn ∧ M2 224 7 = nI tn ∧ M2 224 5 = r
abbrev plP (M : Mem) (pn tn : Nat) (T : TO) (M2 : Mem) : Prop := plF M M2 pn tn 0 ∧ M2 225 = T.1 ∧ InvE T.1 ∧ (T.2.2.1 = 0 → M2 224 12 = nI T.2.1) ∧ (¬ T.2.2.1 = 0 → M2 224 9 = nI T.2.2.2.1 ∧ M2 224 10 = T.2.2.1 ∧ M2 224 11 = T.2.2.2.2)
set_option maxHeartbeats 4000000 in
set_option maxRecDepth 100000 in
theorem c_X8_plays (l : Launch) (g : Gm) (M : Mem) (t : Nat) (hi : Inv (M 225) t) (ht : t ≤ 99999) (pn : Nat) (hpn4 : pn ≤ 4) (hpn : M 224 4 = nI pn) (tn : Nat) (htn6 : tn ≤ 60) (htn : M 224 7 = nI tn) : Cn l yX8_plays cX8_plays 4 (some .boolean) 8 177 g [.ref (ad g 224)] M (fun v M2 => v = some (.int (b2i ((tryT (M 229) tn (M 225)).2.2.1 = 0))) ∧ plP M pn tn (tryT (M 229) tn (M 225)) M2) := by
  refine Cn.intro (lv0 := [some (.ref (ad g 224)), none, none, none]) 3 (by decide +kernel) (Nat.le_of_ble_eq_true rfl) rfl (fun X F r => ?_)
  have k224 := kd224
  have k225 := kd225
  have k229 := kd229
  have k230 := kd230
  have E : ∀ (M1 : Mem) (w2 w3 : Option Value), plF M M1 pn tn 1 → M1 225 = (tryT (M 229) tn (M 225)).1 → InvE (tryT (M 229) tn (M 225)).1 → ¬ (tryT (M 229) tn (M 225)).2.2.1 = 0 → M1 224 9 = nI (tryT (M 229) tn (M 225)).2.2.2.1 → M1 224 10 = (tryT (M 229) tn (M 225)).2.2.1 → M1 224 11 = (tryT (M 229) tn (M 225)).2.2.2.2 → G X g 4 M1 22 [some (.ref (ad g 224)), some (.int 0), w2, w3] [] := by
    intro M1 w2 w3 hF h225 hI hz1 h9 h10 h11
    refine g_aload_n (pc := 22) F dX8_plays_22 rfl ?_
    refine g_geti (pc := 23) F fl_X8_151 (by assumption) rfl dX8_plays_23 ?_
    refine g_aload_n (pc := 26) F dX8_plays_26 rfl ?_
    refine g_geti (pc := 27) F fl_X8_148 (by assumption) rfl dX8_plays_27 ?_
    refine g_icmp_ge (pc := 30) (tgt := 124) F dX8_plays_30 (by decide) (fun c30 => ?_) (fun c30 => ?_)
    · refine g_aload_n (pc := 124) F dX8_plays_124 rfl ?_
      refine g_iconst (pc := 125) (v := 0) F dX8_plays_125 (by decide) ?_
      refine g_puti (pc := 126) F fl_X8_28 rfl rfl (by assumption) rfl dX8_plays_126 ?_
      refine g_iload_n (pc := 129) F dX8_plays_129 rfl ?_
      refine g_zret (pc := 130) F (by decide) r dX8_plays_130 ?_
      rw [show b2i ((tryT (M 229) tn (M 225)).2.2.1 = 0) = 0 from if_neg hz1]
      refine ⟨rfl, ⟨fun a h1 h2 h3 => (upd2_k _ _ _ h1).trans (hF.1 a h1 h2 h3), (upd2_j _ _ _ (by decide)).trans hF.2.1, (upd2_j _ _ _ (by decide)).trans hF.2.2.1, upd2_self _ _ _ _⟩, (upd2_k _ _ _ (by decide)).trans h225, hI, fun e => absurd e hz1, fun _ => ⟨(upd2_j _ _ _ (by decide)).trans h9, (upd2_j _ _ _ (by decide)).trans h10, (upd2_j _ _ _ (by decide)).trans h11⟩⟩
    · refine g_iload_n (pc := 33) F dX8_plays_33 rfl ?_
      refine g_if_eq (pc := 34) (tgt := 124) F dX8_plays_34 (by decide) (fun c34 => ?_) (fun c34 => ?_)
      · refine g_aload_n (pc := 124) F dX8_plays_124 rfl ?_
        refine g_iconst (pc := 125) (v := 0) F dX8_plays_125 (by decide) ?_
        refine g_puti (pc := 126) F fl_X8_28 rfl rfl (by assumption) rfl dX8_plays_126 ?_
        refine g_iload_n (pc := 129) F dX8_plays_129 rfl ?_
        refine g_zret (pc := 130) F (by decide) r dX8_plays_130 ?_
        rw [show b2i ((tryT (M 229) tn (M 225)).2.2.1 = 0) = 0 from if_neg hz1]
        refine ⟨rfl, ⟨fun a h1 h2 h3 => (upd2_k _ _ _ h1).trans (hF.1 a h1 h2 h3), (upd2_j _ _ _ (by decide)).trans hF.2.1, (upd2_j _ _ _ (by decide)).trans hF.2.2.1, upd2_self _ _ _ _⟩, (upd2_k _ _ _ (by decide)).trans h225, hI, fun e => absurd e hz1, fun _ => ⟨(upd2_j _ _ _ (by decide)).trans h9, (upd2_j _ _ _ (by decide)).trans h10, (upd2_j _ _ _ (by decide)).trans h11⟩⟩
      · exact absurd rfl c34
  have L : ∀ (n : Nat) (M1 : Mem) (S1 : SV) (p m : Nat) (w2 w3 : Option Value), 60 ≤ n + p → p ≤ tn → plF M M1 pn tn 1 → M1 225 = S1 → InvE S1 → M1 224 8 = nI p → M1 224 12 = nI m → tryT (M 229) tn (M 225) = tryS (sgn (M 229) tn) tn n S1 p m → G X g 4 M1 22 [some (.ref (ad g 224)), some (.int 1), w2, w3] [] := by
    intro n
    induction n with
    | zero =>
      intro M1 S1 p m w2 w3 hnp hp hF h225 hI h8 h12 hR
      refine g_aload_n (pc := 22) F dX8_plays_22 rfl ?_
      refine g_geti (pc := 23) F fl_X8_151 (by assumption) rfl dX8_plays_23 ?_
      refine g_aload_n (pc := 26) F dX8_plays_26 rfl ?_
      refine g_geti (pc := 27) F fl_X8_148 (by assumption) rfl dX8_plays_27 ?_
      refine g_icmp_ge (pc := 30) (tgt := 124) F dX8_plays_30 (by decide) (fun c30 => ?_) (fun c30 => ?_)
      · refine g_aload_n (pc := 124) F dX8_plays_124 rfl ?_
        refine g_iconst (pc := 125) (v := 0) F dX8_plays_125 (by decide) ?_
        refine g_puti (pc := 126) F fl_X8_28 rfl rfl (by assumption) rfl dX8_plays_126 ?_
        refine g_iload_n (pc := 129) F dX8_plays_129 rfl ?_
        refine g_zret (pc := 130) F (by decide) r dX8_plays_130 ?_
        have hR0 : tryT (M 229) tn (M 225) = (S1, m, 0, p, 0) := hR
        have hz1 : (tryT (M 229) tn (M 225)).2.2.1 = 0 := by rw [hR0]
        rw [show b2i ((tryT (M 229) tn (M 225)).2.2.1 = 0) = 1 from if_pos hz1]
        refine ⟨rfl, ⟨fun a h1 h2 h3 => (upd2_k _ _ _ h1).trans (hF.1 a h1 h2 h3), (upd2_j _ _ _ (by decide)).trans hF.2.1, (upd2_j _ _ _ (by decide)).trans hF.2.2.1, upd2_self _ _ _ _⟩, ?_, ?_, fun _ => ?_, fun e => absurd hz1 e⟩
        · rw [hR0]; exact (upd2_k _ _ _ (by decide)).trans h225
        · rw [hR0]; exact hI
        · rw [hR0]; exact (upd2_j _ _ _ (by decide)).trans h12
      · exact absurd (by rw [h8, hF.2.2.1]; exact nI_le (by omega) (by omega)) c30
    | succ n ih =>
      intro M1 S1 p m w2 w3 hnp hp hF h225 hI h8 h12 hR
      refine g_aload_n (pc := 22) F dX8_plays_22 rfl ?_
      refine g_geti (pc := 23) F fl_X8_151 (by assumption) rfl dX8_plays_23 ?_
      refine g_aload_n (pc := 26) F dX8_plays_26 rfl ?_
      refine g_geti (pc := 27) F fl_X8_148 (by assumption) rfl dX8_plays_27 ?_
      refine g_icmp_ge (pc := 30) (tgt := 124) F dX8_plays_30 (by decide) (fun c30 => ?_) (fun c30 => ?_)
      · have hpn : ¬ p < tn := fun e => by
          rw [h8, hF.2.2.1] at c30
          exact nI_ge e (by omega) c30
        refine g_aload_n (pc := 124) F dX8_plays_124 rfl ?_
        refine g_iconst (pc := 125) (v := 0) F dX8_plays_125 (by decide) ?_
        refine g_puti (pc := 126) F fl_X8_28 rfl rfl (by assumption) rfl dX8_plays_126 ?_
        refine g_iload_n (pc := 129) F dX8_plays_129 rfl ?_
        refine g_zret (pc := 130) F (by decide) r dX8_plays_130 ?_
        have hR0 : tryT (M 229) tn (M 225) = (S1, m, 0, p, 0) := by
          rw [hR]
          unfold tryS
          rw [if_neg hpn]
        have hz1 : (tryT (M 229) tn (M 225)).2.2.1 = 0 := by rw [hR0]
        rw [show b2i ((tryT (M 229) tn (M 225)).2.2.1 = 0) = 1 from if_pos hz1]
        refine ⟨rfl, ⟨fun a h1 h2 h3 => (upd2_k _ _ _ h1).trans (hF.1 a h1 h2 h3), (upd2_j _ _ _ (by decide)).trans hF.2.1, (upd2_j _ _ _ (by decide)).trans hF.2.2.1, upd2_self _ _ _ _⟩, ?_, ?_, fun _ => ?_, fun e => absurd hz1 e⟩
        · rw [hR0]; exact (upd2_k _ _ _ (by decide)).trans h225
        · rw [hR0]; exact hI
        · rw [hR0]; exact (upd2_j _ _ _ (by decide)).trans h12
      · have hpn : p < tn := by
          rw [h8, hF.2.2.1, nI_leI (by omega) (by omega)] at c30
          omega
        refine g_iload_n (pc := 33) F dX8_plays_33 rfl ?_
        refine g_if_eq (pc := 34) (tgt := 124) F dX8_plays_34 (by decide) (fun c34 => ?_) (fun c34 => ?_)
        · exact absurd c34 (by decide)
        · refine g_aload_n (pc := 37) F dX8_plays_37 rfl ?_
          refine g_aload_n (pc := 38) F dX8_plays_38 rfl ?_
          refine g_geti (pc := 39) F fl_X8_151 (by assumption) rfl dX8_plays_39 ?_
          refine g_puti (pc := 42) F fl_X8_185 rfl rfl (by assumption) rfl dX8_plays_42 ?_
          refine g_aload_n (pc := 45) F dX8_plays_45 rfl ?_
          have hA : ∀ a, a ≠ 224 → upd2 M1 224 9 (M1 224 8) a = M1 a := fun a h1 => upd2_k _ _ _ h1
          have e229 : upd2 M1 224 9 (M1 224 8) 229 = M 229 := (hA 229 (by decide)).trans (hF.1 229 (by decide) (by decide) (by decide))
          obtain ⟨hin1, hin2, hin3⟩ := rdO_in (tx := M 229) hpn z0
          refine g_callV (pc := 46) (rf2 := 3) (rl2 := 66) F cs_X8_191 k224 rfl (by decide) (by rfl) (by rfl) (Nat.le_of_ble_eq_true (by rfl)) (by decide) dX8_plays_46 (c_X8_reads _ g (upd2 M1 224 9 (M1 224 8)) tn htn6 (by rw [upd2_j _ _ _ (by decide)]; exact hF.2.2.1) p (by omega) (by rw [upd2_j _ _ _ (by decide)]; exact h8) hpn) (fun v M3 hz => ?_)
          obtain ⟨rfl, hr1, hr2, hr3⟩ := hz
          rw [e229] at hr2 hr3
          rw [e229]
          rw [upd2_row] at hr2
          have q4 : M3 224 4 = nI pn := by rw [hr2, upd_ne _ _ (by decide), upd_ne _ _ (by decide), upd_ne _ _ (by decide)]; exact hF.2.1
          have q7 : M3 224 7 = nI tn := by rw [hr2, upd_ne _ _ (by decide), upd_ne _ _ (by decide), upd_ne _ _ (by decide)]; exact hF.2.2.1
          have q5 : M3 224 5 = 1 := by rw [hr2, upd_ne _ _ (by decide), upd_ne _ _ (by decide), upd_ne _ _ (by decide)]; exact hF.2.2.2
          have q12 : M3 224 12 = nI m := by rw [hr2, upd_ne _ _ (by decide), upd_ne _ _ (by decide), upd_ne _ _ (by decide)]; exact h12
          have q9 : M3 224 9 = nI p := by rw [hr2, upd_ne _ _ (by decide), upd_ne _ _ (by decide), upd_self]; exact h8
          have q8 : M3 224 8 = nI (rdO (sgn (M 229) tn) p z0).2.1 := by rw [hr2, upd_self]
          have q225 : M3 225 = S1 := (hr1 225 (by decide) (by decide)).trans ((hA 225 (by decide)).trans h225)
          by_cases hok : (rdO (sgn (M 229) tn) p z0).1 = true
          · rw [show b2i ((rdO (sgn (M 229) tn) p z0).1 = true) = 1 from if_pos hok]
            refine g_istore_n (pc := 49) F dX8_plays_49 (by decide) rfl ?_
            refine g_iload_n (pc := 50) F dX8_plays_50 rfl ?_
            refine g_if_eq (pc := 51) (tgt := 61) F dX8_plays_51 (by decide) (fun c51 => ?_) (fun c51 => ?_)
            · exact absurd c51 (by decide)
            · refine g_aload_n (pc := 54) F dX8_plays_54 rfl ?_
              obtain ⟨t1, ht1, hiv⟩ := hI
              have hc13 : M3 224 13 = (sgn (M 229) tn) p := by
                rw [hr2, upd_ne _ _ (by decide), upd_self]
                exact ord_eq (rdO_ok_wants hok)
              have hob : oObey (M3 225) ((sgn (M 229) tn) p) (M3 230) = oObey S1 ((sgn (M 229) tn) p) (rdO (sgn (M 229) tn) p z0).2.2 := by
                rw [q225]
                exact oObey_agree S1 (rdO_ok_wants hok) (hr3 hok)
              have hokR := ok_obey hiv ht1 ((sgn (M 229) tn) p) (rdO (sgn (M 229) tn) p z0).2.2
              have hI : InvE S1 := ⟨t1, ht1, hiv⟩
              refine g_callV (pc := 55) (rf2 := 7) (rl2 := 157) F cs_X8_195 k224 rfl (by decide) (by rfl) (by rfl) (Nat.le_of_ble_eq_true (by rfl)) (by decide) dX8_plays_55 (c_X8_calls _ g M3 t1 (by rw [q225]; exact hiv) ht1 pn hpn4 q4 q5 ((sgn (M 229) tn) p) hc13) (fun v M4 hz => ?_)
              obtain ⟨rfl, h4⟩ := hz
              rw [hob] at h4
              rw [hob]
              refine g_goto (pc := 58) (tgt := 62) F dX8_plays_58 (by decide) ?_
              refine g_istore_n (pc := 62) F dX8_plays_62 (by decide) rfl ?_
              refine g_iload_n (pc := 63) F dX8_plays_63 rfl ?_
              refine g_if_eq (pc := 64) (tgt := 75) F dX8_plays_64 (by decide) (fun c64 => ?_) (fun c64 => ?_)
              · exact absurd c64 (by decide)
              · refine g_iload_n (pc := 67) F dX8_plays_67 rfl ?_
                refine g_if_lt (pc := 68) (tgt := 75) F dX8_plays_68 (by decide) (fun c68 => ?_) (fun c68 => ?_)
                · refine g_iconst (pc := 75) (v := 0) F dX8_plays_75 (by decide) ?_
                  refine g_istore_n (pc := 76) F dX8_plays_76 (by decide) rfl ?_
                  refine g_aload_n (pc := 77) F dX8_plays_77 rfl ?_
                  refine g_iload_n (pc := 78) F dX8_plays_78 rfl ?_
                  refine g_if_eq (pc := 79) (tgt := 86) F dX8_plays_79 (by decide) (fun c79 => ?_) (fun c79 => ?_)
                  · exact absurd c79 (by decide)
                  · refine g_iconst (pc := 82) (v := 2) F dX8_plays_82 (by decide) ?_
                    refine g_goto (pc := 83) (tgt := 87) F dX8_plays_83 (by decide) ?_
                    refine g_puti (pc := 87) F fl_X8_198 rfl rfl (by assumption) rfl dX8_plays_87 ?_
                    refine g_aload_n (pc := 90) F dX8_plays_90 rfl ?_
                    refine g_iload_n (pc := 91) F dX8_plays_91 rfl ?_
                    refine g_if_eq (pc := 92) (tgt := 99) F dX8_plays_92 (by decide) (fun c92 => ?_) (fun c92 => ?_)
                    · exact absurd c92 (by decide)
                    · refine g_iload_n (pc := 95) F dX8_plays_95 rfl ?_
                      refine g_goto (pc := 96) (tgt := 108) F dX8_plays_96 (by decide) ?_
                      refine g_puti (pc := 108) F fl_X8_201 rfl rfl (by assumption) rfl dX8_plays_108 ?_
                      refine g_aload_n (pc := 111) F dX8_plays_111 rfl ?_
                      refine g_dup (pc := 112) F dX8_plays_112 rfl ?_
                      refine g_geti (pc := 113) F fl_X8_188 (by assumption) rfl dX8_plays_113 ?_
                      refine g_iconst (pc := 116) (v := 1) F dX8_plays_116 (by decide) ?_
                      refine g_iadd (pc := 117) F dX8_plays_117 ?_
                      refine g_puti (pc := 118) F fl_X8_188 rfl rfl (by assumption) rfl dX8_plays_118 ?_
                      have hR0 : tryT (M 229) tn (M 225) = (S1, m, 2, p, (oObey S1 ((sgn (M 229) tn) p) (rdO (sgn (M 229) tn) p z0).2.2).1) := by
                        rw [hR]
                        unfold tryS
                        rw [if_pos hpn, if_pos hok, if_pos c68]
                      have e4 : M4 = M3 := h4.elim (fun q => q.2) (fun q => absurd c68 q.1)
                      rw [e4]
                      refine g_goto (pc := 121) (tgt := 22) F dX8_plays_121 (by decide) ?_
                      refine E _ _ _ ⟨fun a h1 h2 h3 => ?_, ?_, ?_, ?_⟩ ?_ ?_ ?_ ?_ ?_ ?_
                      · exact (upd2_k _ _ _ h1).trans ((upd2_k _ _ _ h1).trans ((upd2_k _ _ _ h1).trans ((hr1 a h1 h3).trans ((upd2_k _ _ _ h1).trans (hF.1 a h1 h2 h3)))))
                      · rw [upd2_j _ _ _ (by decide), upd2_j _ _ _ (by decide), upd2_j _ _ _ (by decide)]; exact q4
                      · rw [upd2_j _ _ _ (by decide), upd2_j _ _ _ (by decide), upd2_j _ _ _ (by decide)]; exact q7
                      · rw [upd2_j _ _ _ (by decide), upd2_j _ _ _ (by decide), upd2_j _ _ _ (by decide)]; exact q5
                      · rw [upd2_k _ _ _ (by decide), upd2_k _ _ _ (by decide), upd2_k _ _ _ (by decide), hR0]; exact q225
                      · rw [hR0]; exact hI
                      · rw [hR0]; exact (show ¬ (2 : Int32) = 0 by decide)
                      · rw [upd2_j _ _ _ (by decide), upd2_j _ _ _ (by decide), upd2_j _ _ _ (by decide), hR0]; exact q9
                      · rw [upd2_j _ _ _ (by decide), upd2_j _ _ _ (by decide), upd2_self, hR0]
                      · rw [upd2_j _ _ _ (by decide), upd2_self, hR0]
                · refine g_iconst (pc := 71) (v := 1) F dX8_plays_71 (by decide) ?_
                  refine g_goto (pc := 72) (tgt := 76) F dX8_plays_72 (by decide) ?_
                  refine g_istore_n (pc := 76) F dX8_plays_76 (by decide) rfl ?_
                  refine g_aload_n (pc := 77) F dX8_plays_77 rfl ?_
                  refine g_iload_n (pc := 78) F dX8_plays_78 rfl ?_
                  refine g_if_eq (pc := 79) (tgt := 86) F dX8_plays_79 (by decide) (fun c79 => ?_) (fun c79 => ?_)
                  · exact absurd c79 (by decide)
                  · refine g_iconst (pc := 82) (v := 2) F dX8_plays_82 (by decide) ?_
                    refine g_goto (pc := 83) (tgt := 87) F dX8_plays_83 (by decide) ?_
                    refine g_puti (pc := 87) F fl_X8_198 rfl rfl (by assumption) rfl dX8_plays_87 ?_
                    refine g_aload_n (pc := 90) F dX8_plays_90 rfl ?_
                    refine g_iload_n (pc := 91) F dX8_plays_91 rfl ?_
                    refine g_if_eq (pc := 92) (tgt := 99) F dX8_plays_92 (by decide) (fun c92 => ?_) (fun c92 => ?_)
                    · exact absurd c92 (by decide)
                    · refine g_iload_n (pc := 95) F dX8_plays_95 rfl ?_
                      refine g_goto (pc := 96) (tgt := 108) F dX8_plays_96 (by decide) ?_
                      refine g_puti (pc := 108) F fl_X8_201 rfl rfl (by assumption) rfl dX8_plays_108 ?_
                      refine g_aload_n (pc := 111) F dX8_plays_111 rfl ?_
                      refine g_dup (pc := 112) F dX8_plays_112 rfl ?_
                      refine g_geti (pc := 113) F fl_X8_188 (by assumption) rfl dX8_plays_113 ?_
                      refine g_iconst (pc := 116) (v := 1) F dX8_plays_116 (by decide) ?_
                      refine g_iadd (pc := 117) F dX8_plays_117 ?_
                      refine g_puti (pc := 118) F fl_X8_188 rfl rfl (by assumption) rfl dX8_plays_118 ?_
                      have e4 : M4 = updr M3 225 (oObey S1 ((sgn (M 229) tn) p) (rdO (sgn (M 229) tn) p z0).2.2).2 := h4.elim (fun q => absurd q.1 c68) (fun q => q.2)
                      rw [e4]
                      refine g_goto (pc := 121) (tgt := 22) F dX8_plays_121 (by decide) ?_
                      refine ih _ (oObey S1 ((sgn (M 229) tn) p) (rdO (sgn (M 229) tn) p z0).2.2).2 (rdO (sgn (M 229) tn) p z0).2.1 (m + 1) _ _ (by have := hin3 hok; omega) hin2 ⟨fun a h1 h2 h3 => ?_, ?_, ?_, ?_⟩ ?_ hokR.1 ?_ ?_ ?_
                      · exact (upd2_k _ _ _ h1).trans ((upd2_k _ _ _ h1).trans ((upd2_k _ _ _ h1).trans ((updr_ne _ _ h2).trans ((hr1 a h1 h3).trans ((upd2_k _ _ _ h1).trans (hF.1 a h1 h2 h3))))))
                      · rw [upd2_j _ _ _ (by decide), upd2_j _ _ _ (by decide), upd2_j _ _ _ (by decide), updr_ne _ _ (by decide)]; exact q4
                      · rw [upd2_j _ _ _ (by decide), upd2_j _ _ _ (by decide), upd2_j _ _ _ (by decide), updr_ne _ _ (by decide)]; exact q7
                      · rw [upd2_j _ _ _ (by decide), upd2_j _ _ _ (by decide), upd2_j _ _ _ (by decide), updr_ne _ _ (by decide)]; exact q5
                      · rw [upd2_k _ _ _ (by decide), upd2_k _ _ _ (by decide), upd2_k _ _ _ (by decide), updr_self]
                      · rw [upd2_j _ _ _ (by decide), upd2_j _ _ _ (by decide), upd2_j _ _ _ (by decide), updr_ne _ _ (by decide)]; exact q8
                      · rw [upd2_self, upd2_j _ _ _ (by decide), upd2_j _ _ _ (by decide), updr_ne _ _ (by decide), q12, nI_1]
                      · rw [hR]
                        conv => lhs; unfold tryS
                        rw [if_pos hpn, if_pos hok, if_neg c68]
          · rw [show b2i ((rdO (sgn (M 229) tn) p z0).1 = true) = 0 from if_neg hok]
            refine g_istore_n (pc := 49) F dX8_plays_49 (by decide) rfl ?_
            refine g_iload_n (pc := 50) F dX8_plays_50 rfl ?_
            refine g_if_eq (pc := 51) (tgt := 61) F dX8_plays_51 (by decide) (fun c51 => ?_) (fun c51 => ?_)
            · refine g_iconst (pc := 61) (v := 0) F dX8_plays_61 (by decide) ?_
              refine g_istore_n (pc := 62) F dX8_plays_62 (by decide) rfl ?_
              refine g_iload_n (pc := 63) F dX8_plays_63 rfl ?_
              refine g_if_eq (pc := 64) (tgt := 75) F dX8_plays_64 (by decide) (fun c64 => ?_) (fun c64 => ?_)
              · refine g_iconst (pc := 75) (v := 0) F dX8_plays_75 (by decide) ?_
                refine g_istore_n (pc := 76) F dX8_plays_76 (by decide) rfl ?_
                refine g_aload_n (pc := 77) F dX8_plays_77 rfl ?_
                refine g_iload_n (pc := 78) F dX8_plays_78 rfl ?_
                refine g_if_eq (pc := 79) (tgt := 86) F dX8_plays_79 (by decide) (fun c79 => ?_) (fun c79 => ?_)
                · refine g_iconst (pc := 86) (v := 1) F dX8_plays_86 (by decide) ?_
                  refine g_puti (pc := 87) F fl_X8_198 rfl rfl (by assumption) rfl dX8_plays_87 ?_
                  refine g_aload_n (pc := 90) F dX8_plays_90 rfl ?_
                  refine g_iload_n (pc := 91) F dX8_plays_91 rfl ?_
                  refine g_if_eq (pc := 92) (tgt := 99) F dX8_plays_92 (by decide) (fun c92 => ?_) (fun c92 => ?_)
                  · refine g_aload_n (pc := 99) F dX8_plays_99 rfl ?_
                    refine g_geti (pc := 100) F fl_X8_151 (by assumption) rfl dX8_plays_100 ?_
                    refine g_aload_n (pc := 103) F dX8_plays_103 rfl ?_
                    refine g_geti (pc := 104) F fl_X8_185 (by assumption) rfl dX8_plays_104 ?_
                    refine g_isub (pc := 107) F dX8_plays_107 ?_
                    refine g_puti (pc := 108) F fl_X8_201 rfl rfl (by assumption) rfl dX8_plays_108 ?_
                    refine g_aload_n (pc := 111) F dX8_plays_111 rfl ?_
                    refine g_dup (pc := 112) F dX8_plays_112 rfl ?_
                    refine g_geti (pc := 113) F fl_X8_188 (by assumption) rfl dX8_plays_113 ?_
                    refine g_iconst (pc := 116) (v := 1) F dX8_plays_116 (by decide) ?_
                    refine g_iadd (pc := 117) F dX8_plays_117 ?_
                    refine g_puti (pc := 118) F fl_X8_188 rfl rfl (by assumption) rfl dX8_plays_118 ?_
                    have hR0 : tryT (M 229) tn (M 225) = (S1, m, 1, p, nI ((rdO (sgn (M 229) tn) p z0).2.1 - p)) := by
                      rw [hR]
                      unfold tryS
                      rw [if_pos hpn, if_neg hok]
                    refine g_goto (pc := 121) (tgt := 22) F dX8_plays_121 (by decide) ?_
                    refine E _ _ _ ⟨fun a h1 h2 h3 => ?_, ?_, ?_, ?_⟩ ?_ ?_ ?_ ?_ ?_ ?_
                    · exact (upd2_k _ _ _ h1).trans ((upd2_k _ _ _ h1).trans ((upd2_k _ _ _ h1).trans ((hr1 a h1 h3).trans ((upd2_k _ _ _ h1).trans (hF.1 a h1 h2 h3)))))
                    · rw [upd2_j _ _ _ (by decide), upd2_j _ _ _ (by decide), upd2_j _ _ _ (by decide)]; exact q4
                    · rw [upd2_j _ _ _ (by decide), upd2_j _ _ _ (by decide), upd2_j _ _ _ (by decide)]; exact q7
                    · rw [upd2_j _ _ _ (by decide), upd2_j _ _ _ (by decide), upd2_j _ _ _ (by decide)]; exact q5
                    · rw [upd2_k _ _ _ (by decide), upd2_k _ _ _ (by decide), upd2_k _ _ _ (by decide), hR0]; exact q225
                    · rw [hR0]; exact hI
                    · rw [hR0]; exact (show ¬ (1 : Int32) = 0 by decide)
                    · rw [upd2_j _ _ _ (by decide), upd2_j _ _ _ (by decide), upd2_j _ _ _ (by decide), hR0]; exact q9
                    · rw [upd2_j _ _ _ (by decide), upd2_j _ _ _ (by decide), upd2_self, hR0]
                    · rw [upd2_j _ _ _ (by decide), upd2_self, upd2_j _ _ _ (by decide), upd2_j _ _ _ (by decide), q8, q9, nI_sub hin1, hR0]
                  · exact absurd rfl c92
                · exact absurd rfl c79
              · exact absurd rfl c64
            · exact absurd rfl c51
  refine g_aload_n (pc := 0) F dX8_plays_0 rfl ?_
  refine g_iconst (pc := 1) (v := 1) F dX8_plays_1 (by decide) ?_
  refine g_puti (pc := 2) F fl_X8_28 rfl rfl (by assumption) rfl dX8_plays_2 ?_
  refine g_aload_n (pc := 5) F dX8_plays_5 rfl ?_
  refine g_iconst (pc := 6) (v := 0) F dX8_plays_6 (by decide) ?_
  refine g_puti (pc := 7) F fl_X8_151 rfl rfl (by assumption) rfl dX8_plays_7 ?_
  refine g_aload_n (pc := 10) F dX8_plays_10 rfl ?_
  refine g_iconst (pc := 11) (v := 0) F dX8_plays_11 (by decide) ?_
  refine g_puti (pc := 12) F fl_X8_185 rfl rfl (by assumption) rfl dX8_plays_12 ?_
  refine g_aload_n (pc := 15) F dX8_plays_15 rfl ?_
  refine g_iconst (pc := 16) (v := 0) F dX8_plays_16 (by decide) ?_
  refine g_puti (pc := 17) F fl_X8_188 rfl rfl (by assumption) rfl dX8_plays_17 ?_
  refine g_iconst (pc := 20) (v := 1) F dX8_plays_20 (by decide) ?_
  refine g_istore_n (pc := 21) F dX8_plays_21 (by decide) rfl ?_
  refine L 60 _ (M 225) 0 0 _ _ (by omega) (Nat.zero_le _) ⟨fun a h1 h2 h3 => ?_, ?_, ?_, ?_⟩ ?_ ⟨t, ht, hi⟩ ?_ ?_ rfl
  · exact (upd2_k _ _ _ h1).trans ((upd2_k _ _ _ h1).trans ((upd2_k _ _ _ h1).trans (upd2_k _ _ _ h1)))
  · rw [upd2_j _ _ _ (by decide), upd2_j _ _ _ (by decide), upd2_j _ _ _ (by decide), upd2_j _ _ _ (by decide)]; exact hpn
  · rw [upd2_j _ _ _ (by decide), upd2_j _ _ _ (by decide), upd2_j _ _ _ (by decide), upd2_j _ _ _ (by decide)]; exact htn
  · rw [upd2_j _ _ _ (by decide), upd2_j _ _ _ (by decide), upd2_j _ _ _ (by decide), upd2_self]
  · rw [upd2_k _ _ _ (by decide), upd2_k _ _ _ (by decide), upd2_k _ _ _ (by decide), upd2_k _ _ _ (by decide)]
  · rw [upd2_j _ _ _ (by decide), upd2_j _ _ _ (by decide), upd2_self]; exact nI0
  · rw [upd2_self]; exact nI0

