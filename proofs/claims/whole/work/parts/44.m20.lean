/-! what no call touches: numbers from 110 on -/
abbrev hiE (S S' : SV) : Prop := ∀ k, 110 ≤ k → S' k = S k
theorem setC_hi (S : SV) {i : Nat} (w : Nat → Int32) (hi : i < 6) : hiE S (setC S i w) := by
  intro k hk
  unfold setC
  rw [if_neg (by omega)]
theorem setGr_hi (S : SV) {i : Nat} (w : Nat → Int32) (hi : i < 4) : hiE S (setGr S i w) := by
  intro k hk
  unfold setGr
  rw [if_neg (by omega)]
theorem upd_hi (S : SV) {i : Nat} (v : Int32) (hi : i < 4) : hiE S (upd S i v) := fun k hk => upd_ne _ _ (by omega)
theorem hiE.trans {A B C : SV} (h1 : hiE A B) (h2 : hiE B C) : hiE A C := fun k hk => (h2 k hk).trans (h1 k hk)
theorem hiE.refl (A : SV) : hiE A A := fun _ _ => rfl
theorem beg_hi (S : SV) {i : Nat} (q : Int32) (hi : i < 6) : hiE S (beg S i q) := (setC_hi S _ hi).trans (upd_hi _ _ (by decide))
theorem sC_hi (S : SV) {i : Nat} (hi : i < 6) : hiE S (sC S i) := by
  unfold sC
  split
  · exact (setC_hi S _ hi).trans (beg_hi _ _ hi)
  · exact setC_hi S _ hi
theorem eC_hi (S : SV) : ∀ i, i ≤ 6 → hiE S (eC S i).1 := by
  intro i
  induction i with
  | zero => exact fun _ => hiE.refl S
  | succ i ih => exact fun h => (ih (by omega)).trans (sC_hi _ (by omega))
theorem eG_hi (S : SV) (z : Int32) : ∀ i, i ≤ 4 → hiE S (eG S z i) := by
  intro i
  induction i with
  | zero => exact fun _ => hiE.refl S
  | succ i ih => exact fun h => (ih (by omega)).trans (setGr_hi _ _ (by omega))
theorem ends_hi {S : SV} {t : Nat} (hi : Inv S t) : hiE S (ends S) := ((eC_hi S _ hi.cn_le.1).trans (eG_hi _ _ _ hi.gn_le.1)).trans (upd_hi _ _ (by decide))
theorem endsN_hi {S : SV} {t : Nat} (hi : Inv S t) : ∀ n, t + n ≤ 100200 → hiE S (endsN S n).2 := by
  intro n
  induction n with
  | zero => exact fun _ => hiE.refl S
  | succ n ih => exact fun h => (ih (by omega)).trans (ends_hi (endsN_inv hi n (by omega)))
theorem wnd_hi (S : SV) {i : Nat} (hi : i < 6) : hiE S (wnd S i) := (beg_hi S _ hi).trans (setC_hi _ _ hi)
theorem obey_hi {S : SV} {t : Nat} (hi : Inv S t) (ht : t ≤ 99999) (c : Int32) (nb : Nat → Int32) : hiE S (oObey S c nb).2 := by
  have hn := hi.cn_le
  have hm := hi.gn_le
  unfold oObey
  split
  · unfold oClock
    split
    · split
      · exact hiE.refl S
      · next h6 =>
        have h6' : cn S < 6 := by
          have : ¬ cn S = 6 := fun e => h6 (by rw [hn.2, e]; rfl)
          omega
        exact ((setC_hi S _ h6').trans (upd_hi _ _ (by decide))).trans (beg_hi _ _ h6')
    · exact hiE.refl S
  · split
    · unfold oPass
      split
      · next h =>
        obtain ⟨i, hin, e⟩ := inC_ex hi h
        rw [e, ixN_nI (by omega)]
        exact setC_hi S _ (by omega)
      · exact hiE.refl S
    · split
      · unfold oTick
        split
        · next hk =>
          obtain ⟨kn, k1, k2, e⟩ := ticksP_nI hk
          split
          · rw [e, ixN_nI (by omega)]
            exact endsN_hi hi kn (by omega)
          · exact hiE.refl S
        · exact hiE.refl S
      · split
        · unfold oWind
          split
          · next h =>
            obtain ⟨i, hin, e⟩ := inC_ex hi h
            rw [e, ixN_nI (by omega)]
            exact wnd_hi S (by omega)
          · exact hiE.refl S
        · unfold oJoin
          split
          · next h =>
            obtain ⟨gi, hgn, e⟩ := inG_ex hi h.1
            split
            · exact hiE.refl S
            · split
              · rw [e, ixN_nI (by omega)]
                exact setGr_hi S _ (by omega)
              · exact hiE.refl S
          · exact hiE.refl S
theorem tryS_hi (s : Nat → Int32) (tn : Nat) : ∀ f S p m, InvE S → hiE S (tryS s tn f S p m).1 := by
  intro f
  induction f with
  | zero => exact fun S _ _ _ => hiE.refl S
  | succ f ih =>
    intro S p m hI
    unfold tryS
    split
    · split
      · split
        · exact hiE.refl S
        · obtain ⟨t, ht, hi⟩ := hI
          exact (obey_hi hi ht _ _).trans (ih _ _ _ (ok_obey hi ht _ _).1)
      · exact hiE.refl S
    · exact hiE.refl S
theorem tryT_hi {tx : Nat → Int32} {tn : Nat} {S : SV} (hI : InvE S) : hiE S (tryT tx tn S).1 := tryS_hi _ _ _ _ _ _ hI
/-- there and back -/
theorem cpy_back {S X Y : SV} (h : hiE S X) : cpyF (cpyF S Y 110) X 110 = S := by
  funext k
  unfold cpyF
  by_cases hk : k < 110
  · rw [if_pos hk, if_pos hk]
  · rw [if_neg hk]
    exact h k (by omega)
abbrev bkP (M : Mem) (pn tn : Nat) (M2 : Mem) : Prop := (∀ a, a ≠ 224 → a ≠ 225 → a ≠ 227 → a ≠ 230 → M2 a = M a) ∧ M2 225 = M 225 ∧ M2 224 4 = nI pn ∧ M2 224 7 = nI tn ∧ M2 224 5 = 0
abbrev pkP (M : Mem) (pn tn : Nat) (r : Int32 × SV) (M2 : Mem) : Prop := (r.1 < 0 ∧ bkP M pn tn M2) ∨ (¬ r.1 < 0 ∧ (∀ a, a ≠ 224 → a ≠ 225 → a ≠ 226 → a ≠ 227 → a ≠ 230 → M2 a = M a) ∧ M2 225 = r.2 ∧ M2 224 4 = nI (pushP (pastF M) pn (M 225)).2 ∧ M2 224 7 = nI tn ∧ M2 224 5 = 0 ∧ ∀ p, p < (pushP (pastF M) pn (M 225)).2 → ∀ k, k < 110 → pastF M2 p k = (pushP (pastF M) pn (M 225)).1 p k)
theorem pushP_le (P : Nat → SV) {pn : Nat} (S : SV) (h : pn ≤ 4) : (pushP P pn S).2 ≤ 4 := by
  unfold pushP
  split
  · show pn + 1 ≤ 4
    omega
  · exact Nat.le_refl 4
theorem tryS_many (s : Nat → Int32) (tn : Nat) : ∀ f S p m, (tryS s tn f S p m).2.1 ≤ m + f := by
  intro f
  induction f with
  | zero => exact fun _ _ m => Nat.le_refl m
  | succ f ih =>
    intro S p m
    unfold tryS
    split
    · split
      · split
        · exact Nat.le_add_right _ _
        · have := ih (oObey S (s p) (rdO s p (fun _ => 0)).2.2).2 (rdO s p (fun _ => 0)).2.1 (m + 1)
          omega
      · exact Nat.le_add_right _ _
    · exact Nat.le_add_right _ _
theorem tryT_many (tx : Nat → Int32) (tn : Nat) (S : SV) : (tryT tx tn S).2.1 ≤ 60 := by
  have := tryS_many (sgn tx tn) tn 60 S 0 0
  unfold tryT
  omega
set_option maxHeartbeats 4000000 in
set_option maxRecDepth 100000 in
theorem c_X8_fault (l : Launch) (g : Gm) (M : Mem) (t : Nat) (hi : Inv (M 225) t) (ht : t ≤ 99999) (pn : Nat) (hpn4 : pn ≤ 4) (hpn : M 224 4 = nI pn) (tn : Nat) (htn6 : tn ≤ 60) (htn : M 224 7 = nI tn) (hrn : M 224 5 = 0) (w : Int32) : Cn l yX8_fault cX8_fault 3 (some .int) 9 200 g [.ref (ad g 224), .int w] M (fun v M2 => v = some (.int (oFault (AM M pn tn) w)) ∧ bkP M pn tn M2) := by
  refine Cn.intro (lv0 := [some (.ref (ad g 224)), some (.int w), none]) 1 (by decide +kernel) (Nat.le_of_ble_eq_true rfl) rfl (fun X F r => ?_)
  have k224 := kd224
  have k225 := kd225
  have k229 := kd229
  have k230 := kd230
  have k227 := kd227
  have k226 := kd226
  refine g_iload_n (pc := 0) F dX8_fault_0 rfl ?_
  refine g_iconst (pc := 1) (v := 0) F dX8_fault_1 (by decide) ?_
  refine g_iconst (pc := 2) (v := 2) F dX8_fault_2 (by decide) ?_
  refine g_callS (pc := 3) (rf2 := 0) (rl2 := 0) F cs_X8_80 (by rfl) (by rfl) (Nat.le_of_ble_eq_true (by rfl)) (by decide) dX8_fault_3 (c_X8_in _ g _ w 0 2) (fun v M2 hz => ?_)
  obtain ⟨rfl, h2⟩ := hz
  rw [h2]
  refine g_if_ne (pc := 6) (tgt := 12) F dX8_fault_6 (by decide) (fun c6 => ?_) (fun c6 => ?_)
  · refine g_aload_n (pc := 12) F dX8_fault_12 rfl ?_
    refine g_getr (pc := 13) F fl_X8_7 (by assumption) rfl dX8_fault_13 ?_
    refine g_aload_n (pc := 16) F dX8_fault_16 rfl ?_
    refine g_getr (pc := 17) F fl_X8_16 (by assumption) rfl dX8_fault_17 ?_
    refine g_callS (pc := 20) (rf2 := 0) (rl2 := 0) F cs_X8_137 (by rfl) (by rfl) (Nat.le_of_ble_eq_true (by rfl)) (by decide) dX8_fault_20 (c_X8_copies _ g M 225 227 k225 k227 (by decide)) (fun v Ma hz => ?_)
    obtain ⟨rfl, ha⟩ := hz
    refine g_aload_n (pc := 23) F dX8_fault_23 rfl ?_
    have a225 : Ma 225 = M 225 := by rw [ha]; exact updr_ne _ _ (by decide)
    have ao : ∀ a, a ≠ 227 → Ma a = M a := fun a h => by rw [ha]; exact updr_ne _ _ h
    have a227 : Ma 227 = cpyF (M 225) (M 227) 110 := by rw [ha]; exact updr_self _ _ _
    refine g_callV (pc := 24) (rf2 := 8) (rl2 := 177) F cs_X8_204 k224 rfl (by decide) (by rfl) (by rfl) (Nat.le_of_ble_eq_true (by rfl)) (by decide) dX8_fault_24 (c_X8_plays _ g Ma t (by rw [a225]; exact hi) ht pn hpn4 (by rw [ao 224 (by decide)]; exact hpn) tn htn6 (by rw [ao 224 (by decide)]; exact htn)) (fun v Mb hz => ?_)
    obtain ⟨rfl, hF, hb225, hbI, hb12, hb9⟩ := hz
    rw [ao 229 (by decide), a225] at hb225 hbI hb12 hb9
    rw [ao 229 (by decide), a225]
    refine g_istore_n (pc := 27) F dX8_fault_27 (by decide) rfl ?_
    refine g_aload_n (pc := 28) F dX8_fault_28 rfl ?_
    refine g_getr (pc := 29) F fl_X8_16 (by assumption) rfl dX8_fault_29 ?_
    refine g_aload_n (pc := 32) F dX8_fault_32 rfl ?_
    refine g_getr (pc := 33) F fl_X8_7 (by assumption) rfl dX8_fault_33 ?_
    refine g_callS (pc := 36) (rf2 := 0) (rl2 := 0) F cs_X8_137 (by rfl) (by rfl) (Nat.le_of_ble_eq_true (by rfl)) (by decide) dX8_fault_36 (c_X8_copies _ g Mb 227 225 k227 k225 (by decide)) (fun v Mc hz => ?_)
    obtain ⟨rfl, hc⟩ := hz
    have c225 : Mc 225 = M 225 := by
      rw [hc, updr_self, hF.1 227 (by decide) (by decide) (by decide), a227, hb225]
      exact cpy_back (tryT_hi ⟨t, ht, hi⟩)
    have co : ∀ a, a ≠ 225 → Mc a = Mb a := fun a h => by rw [hc]; exact updr_ne _ _ h
    have c224 : Mc 224 = Mb 224 := co 224 (by decide)
    have hbk : bkP M pn tn Mc := ⟨fun a h1 h2 h3 h4 => (co a h2).trans ((hF.1 a h1 h2 h4).trans (ao a h3)), c225, by rw [c224]; exact hF.2.1, by rw [c224]; exact hF.2.2.1, by rw [c224]; exact hF.2.2.2⟩
    refine g_iload_n (pc := 39) F dX8_fault_39 rfl ?_
    refine g_if_eq (pc := 40) (tgt := 48) F dX8_fault_40 (by decide) (fun c40 => ?_) (fun c40 => ?_)
    · refine g_iload_n (pc := 48) F dX8_fault_48 rfl ?_
      refine g_if_ne (pc := 49) (tgt := 59) F dX8_fault_49 (by decide) (fun c49 => ?_) (fun c49 => ?_)
      · refine g_iload_n (pc := 59) F dX8_fault_59 rfl ?_
        refine g_iconst (pc := 60) (v := 1) F dX8_fault_60 (by decide) ?_
        refine g_icmp_ne (pc := 61) (tgt := 71) F dX8_fault_61 (by decide) (fun c61 => ?_) (fun c61 => ?_)
        · refine g_aload_n (pc := 71) F dX8_fault_71 rfl ?_
          refine g_geti (pc := 72) F fl_X8_201 (by assumption) rfl dX8_fault_72 ?_
          refine g_iret (pc := 75) F r dX8_fault_75 ?_
          have hz1 := b2i_0 c40
          obtain ⟨x9, x10, x11⟩ := hb9 hz1
          have e : oFault (AM M pn tn) w = (tryT (M 229) tn (M 225)).2.2.2.2 := (if_pos (b2i_1 c6)).trans ((if_neg hz1).trans ((if_neg c49).trans (if_neg c61)))
          rw [e, c224, x11]
          exact ⟨rfl, hbk⟩
        · refine g_aload_n (pc := 64) F dX8_fault_64 rfl ?_
          refine g_geti (pc := 65) F fl_X8_198 (by assumption) rfl dX8_fault_65 ?_
          refine g_goto (pc := 68) (tgt := 75) F dX8_fault_68 (by decide) ?_
          refine g_iret (pc := 75) F r dX8_fault_75 ?_
          have hz1 := b2i_0 c40
          obtain ⟨x9, x10, x11⟩ := hb9 hz1
          have e : oFault (AM M pn tn) w = (tryT (M 229) tn (M 225)).2.2.1 := (if_pos (b2i_1 c6)).trans ((if_neg hz1).trans ((if_neg c49).trans (if_pos c61)))
          rw [e, c224, x10]
          exact ⟨rfl, hbk⟩
      · refine g_aload_n (pc := 52) F dX8_fault_52 rfl ?_
        refine g_geti (pc := 53) F fl_X8_185 (by assumption) rfl dX8_fault_53 ?_
        refine g_goto (pc := 56) (tgt := 75) F dX8_fault_56 (by decide) ?_
        refine g_iret (pc := 75) F r dX8_fault_75 ?_
        have hz1 := b2i_0 c40
        obtain ⟨x9, x10, x11⟩ := hb9 hz1
        have e : oFault (AM M pn tn) w = nI (tryT (M 229) tn (M 225)).2.2.2.1 := (if_pos (b2i_1 c6)).trans ((if_neg hz1).trans (if_pos c49))
        rw [e, c224, x9]
        exact ⟨rfl, hbk⟩
    · refine g_ldc (pc := 43) F wk_X8_109 dX8_fault_43 ?_
      refine g_goto (pc := 45) (tgt := 75) F dX8_fault_45 (by decide) ?_
      refine g_iret (pc := 75) F r dX8_fault_75 ?_
      have e : oFault (AM M pn tn) w = -1000004 := (if_pos (b2i_1 c6)).trans (if_pos (b2i_1 c40))
      rw [e]
      exact ⟨rfl, hbk⟩
  · refine g_ldc (pc := 9) F wk_X8_88 dX8_fault_9 ?_
    refine g_iret (pc := 11) F r dX8_fault_11 ?_
    have e : oFault (AM M pn tn) w = -1000001 := if_neg (fun q => b2i_0 c6 q)
    rw [e]
    exact ⟨rfl, fun _ _ _ _ _ => rfl, rfl, hpn, htn, hrn⟩

set_option maxHeartbeats 4000000 in
set_option maxRecDepth 100000 in
theorem c_X8_play (l : Launch) (g : Gm) (M : Mem) (t : Nat) (hi : Inv (M 225) t) (ht : t ≤ 99999) (pn : Nat) (hpn4 : pn ≤ 4) (hpn : M 224 4 = nI pn) (tn : Nat) (htn6 : tn ≤ 60) (htn : M 224 7 = nI tn) : Cn l yX8_play cX8_play 2 (some .int) 9 200 g [.ref (ad g 224)] M (fun v M2 => v = some (.int (oPlay (AM M pn tn)).1) ∧ pkP M pn tn (oPlay (AM M pn tn)) M2) := by
  refine Cn.intro (lv0 := [some (.ref (ad g 224)), none]) 1 (by decide +kernel) (Nat.le_of_ble_eq_true rfl) rfl (fun X F r => ?_)
  have k224 := kd224
  have k225 := kd225
  have k229 := kd229
  have k230 := kd230
  have k227 := kd227
  have k226 := kd226
  refine g_aload_n (pc := 0) F dX8_play_0 rfl ?_
  refine g_getr (pc := 1) F fl_X8_7 (by assumption) rfl dX8_play_1 ?_
  refine g_aload_n (pc := 4) F dX8_play_4 rfl ?_
  refine g_getr (pc := 5) F fl_X8_16 (by assumption) rfl dX8_play_5 ?_
  refine g_callS (pc := 8) (rf2 := 0) (rl2 := 0) F cs_X8_137 (by rfl) (by rfl) (Nat.le_of_ble_eq_true (by rfl)) (by decide) dX8_play_8 (c_X8_copies _ g M 225 227 k225 k227 (by decide)) (fun v Ma hz => ?_)
  obtain ⟨rfl, ha⟩ := hz
  refine g_aload_n (pc := 11) F dX8_play_11 rfl ?_
  have a225 : Ma 225 = M 225 := by rw [ha]; exact updr_ne _ _ (by decide)
  have ao : ∀ a, a ≠ 227 → Ma a = M a := fun a h => by rw [ha]; exact updr_ne _ _ h
  have a227 : Ma 227 = cpyF (M 225) (M 227) 110 := by rw [ha]; exact updr_self _ _ _
  refine g_callV (pc := 12) (rf2 := 8) (rl2 := 177) F cs_X8_204 k224 rfl (by decide) (by rfl) (by rfl) (Nat.le_of_ble_eq_true (by rfl)) (by decide) dX8_play_12 (c_X8_plays _ g Ma t (by rw [a225]; exact hi) ht pn hpn4 (by rw [ao 224 (by decide)]; exact hpn) tn htn6 (by rw [ao 224 (by decide)]; exact htn)) (fun v Mb hz => ?_)
  obtain ⟨rfl, hF, hb225, hbI, hb12, hb9⟩ := hz
  rw [ao 229 (by decide), a225] at hb225 hbI hb12 hb9
  rw [ao 229 (by decide), a225]
  refine g_istore_n (pc := 15) F dX8_play_15 (by decide) rfl ?_
  refine g_aload_n (pc := 16) F dX8_play_16 rfl ?_
  refine g_getr (pc := 17) F fl_X8_16 (by assumption) rfl dX8_play_17 ?_
  refine g_aload_n (pc := 20) F dX8_play_20 rfl ?_
  refine g_getr (pc := 21) F fl_X8_7 (by assumption) rfl dX8_play_21 ?_
  refine g_callS (pc := 24) (rf2 := 0) (rl2 := 0) F cs_X8_137 (by rfl) (by rfl) (Nat.le_of_ble_eq_true (by rfl)) (by decide) dX8_play_24 (c_X8_copies _ g Mb 227 225 k227 k225 (by decide)) (fun v Mc hz => ?_)
  obtain ⟨rfl, hc⟩ := hz
  have c225 : Mc 225 = M 225 := by
    rw [hc, updr_self, hF.1 227 (by decide) (by decide) (by decide), a227, hb225]
    exact cpy_back (tryT_hi ⟨t, ht, hi⟩)
  have co : ∀ a, a ≠ 225 → Mc a = Mb a := fun a h => by rw [hc]; exact updr_ne _ _ h
  have c224 : Mc 224 = Mb 224 := co 224 (by decide)
  have hbk : bkP M pn tn Mc := ⟨fun a h1 h2 h3 h4 => (co a h2).trans ((hF.1 a h1 h2 h4).trans (ao a h3)), c225, by rw [c224]; exact hF.2.1, by rw [c224]; exact hF.2.2.1, by rw [c224]; exact hF.2.2.2⟩
  refine g_iload_n (pc := 27) F dX8_play_27 rfl ?_
  refine g_if_ne (pc := 28) (tgt := 34) F dX8_play_28 (by decide) (fun c28 => ?_) (fun c28 => ?_)
  · have hz1 := b2i_1 c28
    have e : oPlay (AM M pn tn) = (nI (tryT (M 229) tn (M 225)).2.1, (tryT (M 229) tn (M 225)).1) := if_pos hz1
    refine g_aload_n (pc := 34) F dX8_play_34 rfl ?_
    refine g_callV (pc := 35) (rf2 := 0) (rl2 := 0) F cs_X8_90 k224 rfl (by decide) (by rfl) (by rfl) (Nat.le_of_ble_eq_true (by rfl)) (by decide) dX8_play_35 (c_X8_changes _ g Mc pn hpn4 hbk.2.2.1 (Or.inl hbk.2.2.2.2)) (fun v Md hz => ?_)
    obtain ⟨rfl, hch⟩ := hz
    obtain ⟨d1, -, d3⟩ := hch
    obtain ⟨d4, d5⟩ := d3 hbk.2.2.2.2
    have d225 : Md 225 = M 225 := (d1 225 (by decide) (by decide)).trans c225
    have d229 : Md 229 = M 229 := (d1 229 (by decide) (by decide)).trans (hbk.1 229 (by decide) (by decide) (by decide) (by decide))
    have ep : pastF Mc = pastF M := by
      funext p k
      show Mc 226 (110 * p + k) = M 226 (110 * p + k)
      rw [hbk.1 226 (by decide) (by decide) (by decide) (by decide)]
    rw [ep, c225] at d4 d5
    refine g_aload_n (pc := 38) F dX8_play_38 rfl ?_
    refine g_callV (pc := 39) (rf2 := 8) (rl2 := 177) F cs_X8_204 k224 rfl (by decide) (by rfl) (by rfl) (Nat.le_of_ble_eq_true (by rfl)) (by decide) dX8_play_39 (c_X8_plays _ g Md t (by rw [d225]; exact hi) ht (pushP (pastF M) pn (M 225)).2 (pushP_le _ _ hpn4) (by rw [d4, upd_self]) tn htn6 (by rw [d4, upd_ne _ _ (by decide)]; exact hbk.2.2.2.1)) (fun v Me hz => ?_)
    obtain ⟨rfl, kF, k225', kI, k12, k9⟩ := hz
    rw [d229, d225] at k225' k12
    rw [d229, d225]
    refine g_if_eq (pc := 42) (tgt := 52) F dX8_play_42 (by decide) (fun c42 => ?_) (fun c42 => ?_)
    · exact absurd hz1 (b2i_0 c42)
    · refine g_aload_n (pc := 45) F dX8_play_45 rfl ?_
      refine g_geti (pc := 46) F fl_X8_188 (by assumption) rfl dX8_play_46 ?_
      refine g_goto (pc := 49) (tgt := 54) F dX8_play_49 (by decide) ?_
      refine g_iret (pc := 54) F r dX8_play_54 ?_
      rw [e, k12 hz1]
      refine ⟨rfl, Or.inr ⟨nI_nneg (by have := tryT_many (M 229) tn (M 225); omega), fun a h1 h2 h3 h4 h5 => (kF.1 a h1 h2 h5).trans ((d1 a h1 h3).trans (hbk.1 a h1 h2 h4 h5)), k225', kF.2.1, kF.2.2.1, kF.2.2.2, fun p hp k hk => ?_⟩⟩
      show Me 226 (110 * p + k) = _
      rw [kF.1 226 (by decide) (by decide) (by decide)]
      exact d5 p hp k hk
  · skip
    refine g_ldc (pc := 31) F wk_X8_108 dX8_play_31 ?_
    refine g_iret (pc := 33) F r dX8_play_33 ?_
    have e : oPlay (AM M pn tn) = (-1000002, M 225) := if_neg (b2i_0 c28)
    rw [e]
    exact ⟨rfl, Or.inl ⟨negc (by decide), hbk⟩⟩

