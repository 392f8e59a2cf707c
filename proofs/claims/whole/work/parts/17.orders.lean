/-! orders: how they are read, how they are done -/
theorem sgn_out {tx : Nat → Int32} {tn k : Nat} (h : ¬ k < tn) : sgn tx tn k = 0 := if_neg h
/-- k numbers of w are left to read from p on -/
def rdN (s : Nat → Int32) (w : Nat) : Nat → Nat → (Nat → Int32) → Bool × Nat × (Nat → Int32)
  | 0, p, nb => (true, p, nb)
  | k + 1, p, nb => if dgs s p = 0 then (false, p, nb) else
      if s (p + dgs s p) = (if k = 0 then 59 else 44) then rdN s w k (p + dgs s p + 1) (upd nb (w - (k + 1)) (nv s p (dgs s p))) else (false, p + dgs s p, upd nb (w - (k + 1)) (nv s p (dgs s p)))
def rdO (s : Nat → Int32) (p : Nat) (nb : Nat → Int32) : Bool × Nat × (Nat → Int32) := if wants (s p) = 0 then (false, p, nb) else rdN s (wants (s p)) (wants (s p)) (p + 1) nb
theorem rdN_agree (s : Nat → Int32) (w : Nat) : ∀ (k p : Nat) (nb nb' : Nat → Int32), k ≤ w → (∀ j, j < w - k → nb j = nb' j) → (rdN s w k p nb).1 = (rdN s w k p nb').1 ∧ (rdN s w k p nb).2.1 = (rdN s w k p nb').2.1 ∧ ((rdN s w k p nb).1 = true → ∀ j, j < w → (rdN s w k p nb).2.2 j = (rdN s w k p nb').2.2 j) := by
  intro k
  induction k with
  | zero => intro p nb nb' _ h; exact ⟨rfl, rfl, fun _ j hj => h j (by omega)⟩
  | succ k ih =>
    intro p nb nb' hk h
    unfold rdN
    by_cases hd : dgs s p = 0
    · rw [if_pos hd, if_pos hd]
      exact ⟨rfl, rfl, fun e => by cases e⟩
    · rw [if_neg hd, if_neg hd]
      by_cases hs : s (p + dgs s p) = (if k = 0 then 59 else 44)
      · rw [if_pos hs, if_pos hs]
        refine ih _ _ _ (by omega) (fun j hj => ?_)
        rw [upd_get, upd_get]
        split
        · rfl
        · exact h j (by omega)
      · rw [if_neg hs, if_neg hs]
        exact ⟨rfl, rfl, fun e => by cases e⟩
theorem rdO_agree (s : Nat → Int32) (p : Nat) (nb nb' : Nat → Int32) : (rdO s p nb).1 = (rdO s p nb').1 ∧ (rdO s p nb).2.1 = (rdO s p nb').2.1 ∧ ((rdO s p nb).1 = true → ∀ j, j < wants (s p) → (rdO s p nb).2.2 j = (rdO s p nb').2.2 j) := by
  unfold rdO
  by_cases hw : wants (s p) = 0
  · rw [if_pos hw, if_pos hw]
    exact ⟨rfl, rfl, fun e => by cases e⟩
  · rw [if_neg hw, if_neg hw]
    exact rdN_agree s _ _ _ nb nb' (Nat.le_refl _) (fun j hj => by omega)
theorem wants_le (c : Int32) : wants c ≤ 5 := by
  unfold wants
  repeat' split
  all_goals omega
theorem rdN_in {tx : Nat → Int32} {tn : Nat} (w : Nat) : ∀ (k p : Nat) (nb : Nat → Int32), p ≤ tn → p ≤ (rdN (sgn tx tn) w k p nb).2.1 ∧ (rdN (sgn tx tn) w k p nb).2.1 ≤ tn := by
  intro k
  induction k with
  | zero => intro p nb hp; exact ⟨Nat.le_refl _, hp⟩
  | succ k ih =>
    intro p nb hp
    unfold rdN
    by_cases hd : dgs (sgn tx tn) p = 0
    · rw [if_pos hd]; exact ⟨Nat.le_refl _, hp⟩
    · rw [if_neg hd]
      have hin := dgs_in (tx := tx) hp
      by_cases hs : sgn tx tn (p + dgs (sgn tx tn) p) = (if k = 0 then 59 else 44)
      · rw [if_pos hs]
        have hlt : p + dgs (sgn tx tn) p < tn := by
          by_cases hk : p + dgs (sgn tx tn) p < tn
          · exact hk
          · rw [sgn_out hk] at hs
            split at hs <;> exact absurd hs (by decide)
        have := ih (p + dgs (sgn tx tn) p + 1) (upd nb (w - (k + 1)) (nv (sgn tx tn) p (dgs (sgn tx tn) p))) (by omega)
        exact ⟨by omega, this.2⟩
      · rw [if_neg hs]; exact ⟨by show p ≤ p + _; omega, hin⟩
/-- an order, done -/
noncomputable def oObey (S : SV) (c : Int32) (nb : Nat → Int32) : Int32 × SV := if c = 99 then oClock S (nb 0) (nb 1) (nb 2) (nb 3) (nb 4) else if c = 112 then oPass S (nb 0) else if c = 116 then oTick S (nb 0) else if c = 119 then oWind S (nb 0) else oJoin S (nb 0) (nb 1)
theorem oObey_agree (S : SV) {c : Int32} {nb nb' : Nat → Int32} (hw : ¬ wants c = 0) (h : ∀ j, j < wants c → nb j = nb' j) : oObey S c nb = oObey S c nb' := by
  unfold oObey
  unfold wants at hw h
  by_cases h1 : c = 99
  · rw [if_pos h1] at h
    rw [if_pos h1, if_pos h1, h 0 (by decide), h 1 (by decide), h 2 (by decide), h 3 (by decide), h 4 (by decide)]
  · rw [if_neg h1] at h hw
    rw [if_neg h1, if_neg h1]
    have h0 : nb 0 = nb' 0 := h 0 (by
      repeat' split
      all_goals first | decide | (rename_i a1 a2 a3 a4; rw [if_neg a1, if_neg a2, if_neg a3, if_neg a4] at hw; exact absurd rfl hw))
    rw [h0]
    by_cases h2 : c = 106
    · rw [if_pos h2] at h
      rw [h 1 (by decide)]
    · rw [if_neg h2] at hw
      by_cases h3 : c = 112
      · rw [if_pos h3, if_pos h3]
      · rw [if_neg h3] at hw
        by_cases h4 : c = 116
        · rw [if_neg h3, if_neg h3, if_pos h4, if_pos h4]
        · rw [if_neg h4] at hw
          by_cases h5 : c = 119
          · rw [if_neg h3, if_neg h3, if_neg h4, if_neg h4, if_pos h5, if_pos h5]
          · rw [if_neg h5] at hw
            exact absurd rfl hw
set_option maxHeartbeats 4000000 in
set_option maxRecDepth 100000 in
theorem c_X5_setFault (l : Launch) (g : Gm) (M : Mem) (x y : Int32) : Cn l yX5_setFault cX5_setFault 3 none 0 0 g [.ref (ad g 222), .int x, .int y] M (fun v M2 => v = none ∧ M2 = upd2 (upd2 M 222 5 x) 222 6 y) := by
  refine Cn.intro (lv0 := [some (.ref (ad g 222)), some (.int x), some (.int y)]) 0 (by decide +kernel) (Nat.le_of_ble_eq_true rfl) rfl (fun X F r => ?_)
  have k220 := kd220
  have k221 := kd221
  have k222 := kd222
  have k223 := kd223
  refine g_aload_n (pc := 0) F dX5_setFault_0 rfl ?_
  refine g_iload_n (pc := 1) F dX5_setFault_1 rfl ?_
  refine g_puti (pc := 2) F fl_X5_32 rfl rfl (by assumption) rfl dX5_setFault_2 ?_
  refine g_aload_n (pc := 5) F dX5_setFault_5 rfl ?_
  refine g_iload_n (pc := 6) F dX5_setFault_6 rfl ?_
  refine g_puti (pc := 7) F fl_X5_55 rfl rfl (by assumption) rfl dX5_setFault_7 ?_
  refine g_vret (pc := 10) F r dX5_setFault_10 ?_
  exact ⟨rfl, rfl⟩

set_option maxHeartbeats 4000000 in
set_option maxRecDepth 100000 in
theorem c_X5_readOrder (l : Launch) (g : Gm) (M : Mem) (tx : Nat → Int32) (tn : Nat) (hT : TR M tx tn) (hI : TI tx tn) (st : Nat) (hst : M 222 2 = nI st) (hat : M 222 3 = nI st) (hlt : st < tn) : Cn l yX5_readOrder cX5_readOrder 4 (some .boolean) 2 44 g [.ref (ad g 222)] M (fun v M2 => v = some (.int (if (rdO (sgn tx tn) st (M 223)).1 = true then 1 else 0)) ∧ (∀ a, a ≠ 222 → a ≠ 223 → M2 a = M a) ∧ M2 222 = upd (M 222) 3 (nI (rdO (sgn tx tn) st (M 223)).2.1) ∧ M2 223 = (rdO (sgn tx tn) st (M 223)).2.2) := by
  refine Cn.intro (lv0 := [some (.ref (ad g 222)), none, none, none]) 3 (by decide +kernel) (Nat.le_of_ble_eq_true rfl) rfl (fun X F r => ?_)
  have htn60 := hT.1
  have k220 := kd220
  have k221 := kd221
  have k222 := kd222
  have k223 := kd223
  have hw5 := wants_le (sgn tx tn st)
  have L : ∀ (k i : Nat) (y : Int32) (M1 : Mem) (p : Nat), i + k = wants (sgn tx tn st) → y = nI i → (∀ a, a ≠ 222 → a ≠ 223 → M1 a = M a) → M1 222 = upd (M 222) 3 (nI p) → p ≤ tn → rdO (sgn tx tn) st (M 223) = rdN (sgn tx tn) (wants (sgn tx tn st)) k p (M1 223) → G X g 4 M1 33 [some (.ref (ad g 222)), some (.int (nI (wants (sgn tx tn st)))), some (.int y), none] [] := by
    intro k
    induction k with
    | zero =>
      intro i y M1 p hi hy hf1 h22 hp hR
      refine g_iload_n (pc := 33) F dX5_readOrder_33 rfl ?_
      refine g_iload_n (pc := 34) F dX5_readOrder_34 rfl ?_
      refine g_icmp_ge (pc := 35) (tgt := 94) F dX5_readOrder_35 (by decide) (fun c35 => ?_) (fun c35 => ?_)
      · refine g_iconst (pc := 94) (v := 1) F dX5_readOrder_94 (by decide) ?_
        refine g_zret (pc := 95) F (by decide) r dX5_readOrder_95 ?_
        rw [hR]
        exact ⟨rfl, hf1, h22, rfl⟩
      · exact absurd (by rw [hy]; exact nI_le (by omega) (by omega)) c35
    | succ k ih =>
      intro i y M1 p hi hy hf1 h22 hp hR
      refine g_iload_n (pc := 33) F dX5_readOrder_33 rfl ?_
      refine g_iload_n (pc := 34) F dX5_readOrder_34 rfl ?_
      refine g_icmp_ge (pc := 35) (tgt := 94) F dX5_readOrder_35 (by decide) (fun c35 => ?_) (fun c35 => ?_)
      · exact absurd c35 (by rw [hy]; exact nI_ge (by omega) (by omega))
      · refine g_iload_n (pc := 38) F dX5_readOrder_38 rfl ?_
        refine g_iconst (pc := 39) (v := 1) F dX5_readOrder_39 (by decide) ?_
        refine g_iadd (pc := 40) F dX5_readOrder_40 ?_
        refine g_iload_n (pc := 41) F dX5_readOrder_41 rfl ?_
        refine g_icmp_ge (pc := 42) (tgt := 50) F dX5_readOrder_42 (by decide) (fun c42 => ?_) (fun c42 => ?_)
        · have hk59 : (if k = 0 then (59 : Int32) else 44) = 59 := if_pos (by rw [hy, nI_1, nI_leI (by omega) (by omega)] at c42; omega)
          refine g_bipush (pc := 50) (v := 59) F dX5_readOrder_50 (by decide) ?_
          refine g_istore_n (pc := 52) F dX5_readOrder_52 (by decide) rfl ?_
          refine g_aload_n (pc := 53) F dX5_readOrder_53 rfl ?_
          refine g_iload_n (pc := 54) F dX5_readOrder_54 rfl ?_
          have h223 : M1 222 3 = nI p := by rw [h22, upd_self]
          refine g_stk (st' := [.int (nI i), .ref (ad g 222)]) (by rw [hy]) ?_
          refine g_callV (pc := 55) (rf2 := 1) (rl2 := 21) F cs_X5_66 k222 rfl (by decide) (by rfl) (by rfl) (Nat.le_of_ble_eq_true (by rfl)) (by decide) dX5_readOrder_55 (c_X5_readNumber _ g _ tx tn (hT.row (hf1 220 (by decide) (by decide)) (hf1 221 (by decide) (by decide))) hI p i h223 hp (by omega)) (fun v M2 hz => ?_)
          obtain ⟨rfl, z2, z3, z4⟩ := hz
          have dz : (if dgs (sgn tx tn) p = 0 then (0 : Int32) else 1) = 0 → dgs (sgn tx tn) p = 0 := fun e => Classical.byContradiction fun q => by rw [if_neg q] at e; exact absurd e (by decide)
          have dnz : ¬ (if dgs (sgn tx tn) p = 0 then (0 : Int32) else 1) = 0 → ¬ dgs (sgn tx tn) p = 0 := fun e q => e (if_pos q)
          have hin := dgs_in (tx := tx) hp
          refine g_if_eq (pc := 58) (tgt := 76) F dX5_readOrder_58 (by decide) (fun c58 => ?_) (fun c58 => ?_)
          · refine g_iconst (pc := 76) (v := 0) F dX5_readOrder_76 (by decide) ?_
            refine g_zret (pc := 77) F (by decide) r dX5_readOrder_77 ?_
            have hd := dz c58
            have e : rdN (sgn tx tn) (wants (sgn tx tn st)) (k + 1) p (M1 223) = (false, p, M1 223) := by
              unfold rdN
              rw [if_pos hd]
            rw [hR, e]
            rw [hd, Nat.add_zero, h22] at z3
            rw [if_pos hd] at z4
            refine ⟨rfl, fun a a1 a2 => (z2 a a1 a2).trans (hf1 a a1 a2), ?_, z4⟩
            rw [z3]
            funext u
            unfold upd
            split <;> rfl
          · refine g_aload_n (pc := 61) F dX5_readOrder_61 rfl ?_
            refine g_getr (pc := 62) F fl_X5_15 (by assumption) rfl dX5_readOrder_62 ?_
            refine g_aload_n (pc := 65) F dX5_readOrder_65 rfl ?_
            refine g_geti (pc := 66) F fl_X5_25 (by assumption) rfl dX5_readOrder_66 ?_
            refine g_stk (st' := [.int (nI (p + dgs (sgn tx tn) p)), .ref (ad g 220)]) (by rw [z3, upd_self] <;> rfl) ?_
            refine g_callV (pc := 69) (rf2 := 0) (rl2 := 0) F cs_X5_58 k220 rfl (by decide) (by rfl) (by rfl) (Nat.le_of_ble_eq_true (by rfl)) (by decide) dX5_readOrder_69 (c_X6_signAt _ g _ tx tn ((hT.row (hf1 220 (by decide) (by decide)) (hf1 221 (by decide) (by decide))).row (z2 220 (by decide) (by decide)) (z2 221 (by decide) (by decide))) hI (p + dgs (sgn tx tn) p) (by omega)) (fun v M2 hz => ?_)
            obtain ⟨rfl, h3⟩ := hz
            rw [h3]
            refine g_iload_n (pc := 72) F dX5_readOrder_72 rfl ?_
            refine g_icmp_eq (pc := 73) (tgt := 78) F dX5_readOrder_73 (by decide) (fun c73 => ?_) (fun c73 => ?_)
            · refine g_aload_n (pc := 78) F dX5_readOrder_78 rfl ?_
              refine g_dup (pc := 79) F dX5_readOrder_79 rfl ?_
              refine g_geti (pc := 80) F fl_X5_25 (by assumption) rfl dX5_readOrder_80 ?_
              refine g_iconst (pc := 83) (v := 1) F dX5_readOrder_83 (by decide) ?_
              refine g_iadd (pc := 84) F dX5_readOrder_84 ?_
              refine g_puti (pc := 85) F fl_X5_25 rfl rfl (by assumption) rfl dX5_readOrder_85 ?_
              refine g_iinc (pc := 88) F dX5_readOrder_88 rfl rfl (by decide) rfl ?_
              refine g_goto (pc := 91) (tgt := 33) F dX5_readOrder_91 (by decide) ?_
              have hd := dnz c58
              rw [h22] at z3
              rw [if_neg hd] at z4
              refine G.sub [some (.ref (ad g 222)), some (.int (nI (wants (sgn tx tn st)))), some (.int (y + Int32.ofInt 1)), none] ⟨rfl, rfl, rfl, trivial⟩ (ih (i + 1) _ _ (p + dgs (sgn tx tn) p + 1) (by omega) (by rw [hy]; exact nI_1 i) ?_ ?_ ?_ ?_)
              · intro a a1 a2; exact (upd2_k _ _ _ a1).trans ((z2 a a1 a2).trans (hf1 a a1 a2))
              · rw [upd2_row, z3, upd_self, nI_1]
                funext u
                unfold upd
                split
                · rfl
                · rfl
              · have := dgs_in (tx := tx) hp
                by_cases hlt : p + dgs (sgn tx tn) p < tn
                · omega
                · exfalso
                  rw [sgn_out hlt] at c73
                  exact absurd c73 (by decide)
              · rw [hR, upd2_k _ _ _ (show (223 : Nat) ≠ 222 by decide), z4]
                have hs : sgn tx tn (p + dgs (sgn tx tn) p) = (if k = 0 then (59 : Int32) else 44) := by rw [hk59]; exact c73
                have e : rdN (sgn tx tn) (wants (sgn tx tn st)) (k + 1) p (M1 223) = rdN (sgn tx tn) (wants (sgn tx tn st)) k (p + dgs (sgn tx tn) p + 1) (upd (M1 223) i (nv (sgn tx tn) p (dgs (sgn tx tn) p))) := by
                  conv => lhs; unfold rdN
                  rw [if_neg hd, if_pos hs, show wants (sgn tx tn st) - (k + 1) = i by omega]
                exact e
            · refine g_iconst (pc := 76) (v := 0) F dX5_readOrder_76 (by decide) ?_
              refine g_zret (pc := 77) F (by decide) r dX5_readOrder_77 ?_
              have hd := dnz c58
              have hs : ¬ sgn tx tn (p + dgs (sgn tx tn) p) = (if k = 0 then (59 : Int32) else 44) := by rw [hk59]; exact c73
              have e : rdN (sgn tx tn) (wants (sgn tx tn st)) (k + 1) p (M1 223) = (false, p + dgs (sgn tx tn) p, upd (M1 223) i (nv (sgn tx tn) p (dgs (sgn tx tn) p))) := by
                unfold rdN
                rw [if_neg hd, if_neg hs, show wants (sgn tx tn st) - (k + 1) = i by omega]
              rw [hR, e]
              rw [h22] at z3
              rw [if_neg hd] at z4
              refine ⟨rfl, fun a a1 a2 => (z2 a a1 a2).trans (hf1 a a1 a2), ?_, ?_⟩
              · rw [z3]
                funext u
                unfold upd
                split <;> rfl
              · exact z4
        · have hk44 : (if k = 0 then (59 : Int32) else 44) = 44 := if_neg (by rw [hy, nI_1, nI_leI (by omega) (by omega)] at c42; omega)
          refine g_bipush (pc := 45) (v := 44) F dX5_readOrder_45 (by decide) ?_
          refine g_goto (pc := 47) (tgt := 52) F dX5_readOrder_47 (by decide) ?_
          refine g_istore_n (pc := 52) F dX5_readOrder_52 (by decide) rfl ?_
          refine g_aload_n (pc := 53) F dX5_readOrder_53 rfl ?_
          refine g_iload_n (pc := 54) F dX5_readOrder_54 rfl ?_
          have h223 : M1 222 3 = nI p := by rw [h22, upd_self]
          refine g_stk (st' := [.int (nI i), .ref (ad g 222)]) (by rw [hy]) ?_
          refine g_callV (pc := 55) (rf2 := 1) (rl2 := 21) F cs_X5_66 k222 rfl (by decide) (by rfl) (by rfl) (Nat.le_of_ble_eq_true (by rfl)) (by decide) dX5_readOrder_55 (c_X5_readNumber _ g _ tx tn (hT.row (hf1 220 (by decide) (by decide)) (hf1 221 (by decide) (by decide))) hI p i h223 hp (by omega)) (fun v M2 hz => ?_)
          obtain ⟨rfl, z2, z3, z4⟩ := hz
          have dz : (if dgs (sgn tx tn) p = 0 then (0 : Int32) else 1) = 0 → dgs (sgn tx tn) p = 0 := fun e => Classical.byContradiction fun q => by rw [if_neg q] at e; exact absurd e (by decide)
          have dnz : ¬ (if dgs (sgn tx tn) p = 0 then (0 : Int32) else 1) = 0 → ¬ dgs (sgn tx tn) p = 0 := fun e q => e (if_pos q)
          have hin := dgs_in (tx := tx) hp
          refine g_if_eq (pc := 58) (tgt := 76) F dX5_readOrder_58 (by decide) (fun c58 => ?_) (fun c58 => ?_)
          · refine g_iconst (pc := 76) (v := 0) F dX5_readOrder_76 (by decide) ?_
            refine g_zret (pc := 77) F (by decide) r dX5_readOrder_77 ?_
            have hd := dz c58
            have e : rdN (sgn tx tn) (wants (sgn tx tn st)) (k + 1) p (M1 223) = (false, p, M1 223) := by
              unfold rdN
              rw [if_pos hd]
            rw [hR, e]
            rw [hd, Nat.add_zero, h22] at z3
            rw [if_pos hd] at z4
            refine ⟨rfl, fun a a1 a2 => (z2 a a1 a2).trans (hf1 a a1 a2), ?_, z4⟩
            rw [z3]
            funext u
            unfold upd
            split <;> rfl
          · refine g_aload_n (pc := 61) F dX5_readOrder_61 rfl ?_
            refine g_getr (pc := 62) F fl_X5_15 (by assumption) rfl dX5_readOrder_62 ?_
            refine g_aload_n (pc := 65) F dX5_readOrder_65 rfl ?_
            refine g_geti (pc := 66) F fl_X5_25 (by assumption) rfl dX5_readOrder_66 ?_
            refine g_stk (st' := [.int (nI (p + dgs (sgn tx tn) p)), .ref (ad g 220)]) (by rw [z3, upd_self] <;> rfl) ?_
            refine g_callV (pc := 69) (rf2 := 0) (rl2 := 0) F cs_X5_58 k220 rfl (by decide) (by rfl) (by rfl) (Nat.le_of_ble_eq_true (by rfl)) (by decide) dX5_readOrder_69 (c_X6_signAt _ g _ tx tn ((hT.row (hf1 220 (by decide) (by decide)) (hf1 221 (by decide) (by decide))).row (z2 220 (by decide) (by decide)) (z2 221 (by decide) (by decide))) hI (p + dgs (sgn tx tn) p) (by omega)) (fun v M2 hz => ?_)
            obtain ⟨rfl, h3⟩ := hz
            rw [h3]
            refine g_iload_n (pc := 72) F dX5_readOrder_72 rfl ?_
            refine g_icmp_eq (pc := 73) (tgt := 78) F dX5_readOrder_73 (by decide) (fun c73 => ?_) (fun c73 => ?_)
            · refine g_aload_n (pc := 78) F dX5_readOrder_78 rfl ?_
              refine g_dup (pc := 79) F dX5_readOrder_79 rfl ?_
              refine g_geti (pc := 80) F fl_X5_25 (by assumption) rfl dX5_readOrder_80 ?_
              refine g_iconst (pc := 83) (v := 1) F dX5_readOrder_83 (by decide) ?_
              refine g_iadd (pc := 84) F dX5_readOrder_84 ?_
              refine g_puti (pc := 85) F fl_X5_25 rfl rfl (by assumption) rfl dX5_readOrder_85 ?_
              refine g_iinc (pc := 88) F dX5_readOrder_88 rfl rfl (by decide) rfl ?_
              refine g_goto (pc := 91) (tgt := 33) F dX5_readOrder_91 (by decide) ?_
              have hd := dnz c58
              rw [h22] at z3
              rw [if_neg hd] at z4
              refine G.sub [some (.ref (ad g 222)), some (.int (nI (wants (sgn tx tn st)))), some (.int (y + Int32.ofInt 1)), none] ⟨rfl, rfl, rfl, trivial⟩ (ih (i + 1) _ _ (p + dgs (sgn tx tn) p + 1) (by omega) (by rw [hy]; exact nI_1 i) ?_ ?_ ?_ ?_)
              · intro a a1 a2; exact (upd2_k _ _ _ a1).trans ((z2 a a1 a2).trans (hf1 a a1 a2))
              · rw [upd2_row, z3, upd_self, nI_1]
                funext u
                unfold upd
                split
                · rfl
                · rfl
              · have := dgs_in (tx := tx) hp
                by_cases hlt : p + dgs (sgn tx tn) p < tn
                · omega
                · exfalso
                  rw [sgn_out hlt] at c73
                  exact absurd c73 (by decide)
              · rw [hR, upd2_k _ _ _ (show (223 : Nat) ≠ 222 by decide), z4]
                have hs : sgn tx tn (p + dgs (sgn tx tn) p) = (if k = 0 then (59 : Int32) else 44) := by rw [hk44]; exact c73
                have e : rdN (sgn tx tn) (wants (sgn tx tn st)) (k + 1) p (M1 223) = rdN (sgn tx tn) (wants (sgn tx tn st)) k (p + dgs (sgn tx tn) p + 1) (upd (M1 223) i (nv (sgn tx tn) p (dgs (sgn tx tn) p))) := by
                  conv => lhs; unfold rdN
                  rw [if_neg hd, if_pos hs, show wants (sgn tx tn st) - (k + 1) = i by omega]
                exact e
            · refine g_iconst (pc := 76) (v := 0) F dX5_readOrder_76 (by decide) ?_
              refine g_zret (pc := 77) F (by decide) r dX5_readOrder_77 ?_
              have hd := dnz c58
              have hs : ¬ sgn tx tn (p + dgs (sgn tx tn) p) = (if k = 0 then (59 : Int32) else 44) := by rw [hk44]; exact c73
              have e : rdN (sgn tx tn) (wants (sgn tx tn st)) (k + 1) p (M1 223) = (false, p + dgs (sgn tx tn) p, upd (M1 223) i (nv (sgn tx tn) p (dgs (sgn tx tn) p))) := by
                unfold rdN
                rw [if_neg hd, if_neg hs, show wants (sgn tx tn st) - (k + 1) = i by omega]
              rw [hR, e]
              rw [h22] at z3
              rw [if_neg hd] at z4
              refine ⟨rfl, fun a a1 a2 => (z2 a a1 a2).trans (hf1 a a1 a2), ?_, ?_⟩
              · rw [z3]
                funext u
                unfold upd
                split <;> rfl
              · exact z4
  refine g_aload_n (pc := 0) F dX5_readOrder_0 rfl ?_
  refine g_getr (pc := 1) F fl_X5_15 (by assumption) rfl dX5_readOrder_1 ?_
  refine g_aload_n (pc := 4) F dX5_readOrder_4 rfl ?_
  refine g_geti (pc := 5) F fl_X5_40 (by assumption) rfl dX5_readOrder_5 ?_
  refine g_stk (st' := [.int (nI st), .ref (ad g 220)]) (by rw [hst] <;> rfl) ?_
  refine g_callV (pc := 8) (rf2 := 0) (rl2 := 0) F cs_X5_58 k220 rfl (by decide) (by rfl) (by rfl) (Nat.le_of_ble_eq_true (by rfl)) (by decide) dX5_readOrder_8 (c_X6_signAt _ g _ tx tn hT hI st (by omega)) (fun v M2 hz => ?_)
  obtain ⟨rfl, h3⟩ := hz
  rw [h3]
  refine g_callS (pc := 11) (rf2 := 0) (rl2 := 0) F cs_X5_62 (by rfl) (by rfl) (Nat.le_of_ble_eq_true (by rfl)) (by decide) dX5_readOrder_11 (c_X5_numbersBehind _ g _ _) (fun v M2 hz => ?_)
  obtain ⟨rfl, h4⟩ := hz
  rw [h4]
  refine g_istore_n (pc := 14) F dX5_readOrder_14 (by decide) rfl ?_
  refine g_iload_n (pc := 15) F dX5_readOrder_15 rfl ?_
  refine g_if_ne (pc := 16) (tgt := 21) F dX5_readOrder_16 (by decide) (fun c16 => ?_) (fun c16 => ?_)
  · have hw0 : ¬ wants (sgn tx tn st) = 0 := fun e => c16 (by rw [e]; rfl)
    refine g_aload_n (pc := 21) F dX5_readOrder_21 rfl ?_
    refine g_dup (pc := 22) F dX5_readOrder_22 rfl ?_
    refine g_geti (pc := 23) F fl_X5_25 (by assumption) rfl dX5_readOrder_23 ?_
    refine g_iconst (pc := 26) (v := 1) F dX5_readOrder_26 (by decide) ?_
    refine g_iadd (pc := 27) F dX5_readOrder_27 ?_
    refine g_puti (pc := 28) F fl_X5_25 rfl rfl (by assumption) rfl dX5_readOrder_28 ?_
    refine g_iconst (pc := 31) (v := 0) F dX5_readOrder_31 (by decide) ?_
    refine g_istore_n (pc := 32) F dX5_readOrder_32 (by decide) rfl ?_
    refine G.sub [some (.ref (ad g 222)), some (.int (nI (wants (sgn tx tn st)))), some (.int 0), none] ⟨rfl, rfl, rfl, trivial⟩ (L (wants (sgn tx tn st)) 0 0 _ (st + 1) (by omega) nI_0.symm ?_ ?_ (by omega) ?_)
    · intro a a1 a2; exact upd2_k _ _ _ a1
    · rw [upd2_row, hat, nI_1]
    · rw [upd2_k _ _ _ (show (223 : Nat) ≠ 222 by decide)]
      exact if_neg hw0
  · have hw0 : wants (sgn tx tn st) = 0 := by
      rw [nI0, nI_inj (by omega) (by decide)] at c16
      exact c16
    refine g_iconst (pc := 19) (v := 0) F dX5_readOrder_19 (by decide) ?_
    refine g_zret (pc := 20) F (by decide) r dX5_readOrder_20 ?_
    have e : rdO (sgn tx tn) st (M 223) = (false, st, M 223) := if_pos hw0
    rw [e]
    refine ⟨rfl, fun _ _ _ => rfl, ?_, rfl⟩
    funext u
    unfold upd
    split
    · next q => rw [q]; exact hat
    · rfl

set_option maxHeartbeats 4000000 in
set_option maxRecDepth 100000 in
theorem c_X5_obey (l : Launch) (g : Gm) (M : Mem) (tx : Nat → Int32) (tn : Nat) (hT : TR M tx tn) (hI : TI tx tn) (st : Nat) (hst : M 222 2 = nI st) (hlt : st < tn) (h : Nat) (hk : kd h = 3) (S : SV) (t : Nat) (hr : HR M h S) (hi : Inv S t) : Cn l yX5_obey cX5_obey 2 (some .int) 4 94 g [.ref (ad g 222), .ref (ad g h)] M (fun v M2 => v = some (.int (oObey S (sgn tx tn st) (M 223)).1) ∧ HR M2 h (oObey S (sgn tx tn st) (M 223)).2 ∧ frH M M2 h) := by
  refine Cn.intro (lv0 := [some (.ref (ad g 222)), some (.ref (ad g h))]) 0 (by decide +kernel) (Nat.le_of_ble_eq_true rfl) rfl (fun X F r => ?_)
  have htn60 := hT.1
  have k220 := kd220
  have k221 := kd221
  have k222 := kd222
  have k223 := kd223
  refine g_aload_n (pc := 0) F dX5_obey_0 rfl ?_
  refine g_getr (pc := 1) F fl_X5_15 (by assumption) rfl dX5_obey_1 ?_
  refine g_aload_n (pc := 4) F dX5_obey_4 rfl ?_
  refine g_geti (pc := 5) F fl_X5_40 (by assumption) rfl dX5_obey_5 ?_
  refine g_stk (st' := [.int (nI st), .ref (ad g 220)]) (by rw [hst] <;> rfl) ?_
  refine g_callV (pc := 8) (rf2 := 0) (rl2 := 0) F cs_X5_58 k220 rfl (by decide) (by rfl) (by rfl) (Nat.le_of_ble_eq_true (by rfl)) (by decide) dX5_obey_8 (c_X6_signAt _ g _ tx tn hT hI st (by omega)) (fun v M2 hz => ?_)
  obtain ⟨rfl, h3⟩ := hz
  rw [h3]
  by_cases n99 : sgn tx tn st = 99
  · refine g_lookup (pc := 11) (off := 41) (tgt := 52) F dX5_obey_11 (by decide) (by exact osw_hit n99 rfl) (by decide) ?_
    refine g_aload_n (pc := 52) F dX5_obey_52 rfl ?_
    refine g_aload_n (pc := 53) F dX5_obey_53 rfl ?_
    refine g_getr (pc := 54) F fl_X5_9 (by assumption) rfl dX5_obey_54 ?_
    refine g_iconst (pc := 57) (v := 0) F dX5_obey_57 (by decide) ?_
    refine g_iald (pc := 58) (q := 0) F (by assumption) rfl (by decide) (by decide) dX5_obey_58 ?_
    refine g_aload_n (pc := 59) F dX5_obey_59 rfl ?_
    refine g_getr (pc := 60) F fl_X5_9 (by assumption) rfl dX5_obey_60 ?_
    refine g_iconst (pc := 63) (v := 1) F dX5_obey_63 (by decide) ?_
    refine g_iald (pc := 64) (q := 1) F (by assumption) rfl (by decide) (by decide) dX5_obey_64 ?_
    refine g_aload_n (pc := 65) F dX5_obey_65 rfl ?_
    refine g_getr (pc := 66) F fl_X5_9 (by assumption) rfl dX5_obey_66 ?_
    refine g_iconst (pc := 69) (v := 2) F dX5_obey_69 (by decide) ?_
    refine g_iald (pc := 70) (q := 2) F (by assumption) rfl (by decide) (by decide) dX5_obey_70 ?_
    refine g_aload_n (pc := 71) F dX5_obey_71 rfl ?_
    refine g_getr (pc := 72) F fl_X5_9 (by assumption) rfl dX5_obey_72 ?_
    refine g_iconst (pc := 75) (v := 3) F dX5_obey_75 (by decide) ?_
    refine g_iald (pc := 76) (q := 3) F (by assumption) rfl (by decide) (by decide) dX5_obey_76 ?_
    refine g_aload_n (pc := 77) F dX5_obey_77 rfl ?_
    refine g_getr (pc := 78) F fl_X5_9 (by assumption) rfl dX5_obey_78 ?_
    refine g_iconst (pc := 81) (v := 4) F dX5_obey_81 (by decide) ?_
    refine g_iald (pc := 82) (q := 4) F (by assumption) rfl (by decide) (by decide) dX5_obey_82 ?_
    refine g_callV (pc := 83) (rf2 := 3) (rl2 := 68) F cs_X5_74 (by assumption) rfl (by decide) (by rfl) (by rfl) (Nat.le_of_ble_eq_true (by rfl)) (by decide) dX5_obey_83 (c_X3_addClock _ g _ h hk S t hr hi _ _ _ _ _) (fun v M2 hz => ?_)
    obtain ⟨rfl, z2, z3⟩ := hz
    refine g_iret (pc := 86) F r dX5_obey_86 ?_
    unfold oObey
    rw [if_pos n99]
    exact ⟨rfl, z2, z3⟩
  by_cases n112 : sgn tx tn st = 112
  · refine g_lookup (pc := 11) (off := 87) (tgt := 98) F dX5_obey_11 (by decide) (by exact (lv_osw n99 rfl).trans (osw_hit n112 rfl)) (by decide) ?_
    refine g_aload_n (pc := 98) F dX5_obey_98 rfl ?_
    refine g_aload_n (pc := 99) F dX5_obey_99 rfl ?_
    refine g_getr (pc := 100) F fl_X5_9 (by assumption) rfl dX5_obey_100 ?_
    refine g_iconst (pc := 103) (v := 0) F dX5_obey_103 (by decide) ?_
    refine g_iald (pc := 104) (q := 0) F (by assumption) rfl (by decide) (by decide) dX5_obey_104 ?_
    refine g_callV (pc := 105) (rf2 := 1) (rl2 := 21) F cs_X5_82 (by assumption) rfl (by decide) (by rfl) (by rfl) (Nat.le_of_ble_eq_true (by rfl)) (by decide) dX5_obey_105 (c_X3_addPassenger _ g _ h hk S t hr hi _) (fun v M2 hz => ?_)
    obtain ⟨rfl, z2, z3⟩ := hz
    refine g_iret (pc := 108) F r dX5_obey_108 ?_
    unfold oObey
    rw [if_neg n99, if_pos n112]
    exact ⟨rfl, z2, z3⟩
  by_cases n116 : sgn tx tn st = 116
  · refine g_lookup (pc := 11) (off := 76) (tgt := 87) F dX5_obey_11 (by decide) (by exact (lv_osw n99 rfl).trans ((lv_osw n112 rfl).trans (osw_hit n116 rfl))) (by decide) ?_
    refine g_aload_n (pc := 87) F dX5_obey_87 rfl ?_
    refine g_aload_n (pc := 88) F dX5_obey_88 rfl ?_
    refine g_getr (pc := 89) F fl_X5_9 (by assumption) rfl dX5_obey_89 ?_
    refine g_iconst (pc := 92) (v := 0) F dX5_obey_92 (by decide) ?_
    refine g_iald (pc := 93) (q := 0) F (by assumption) rfl (by decide) (by decide) dX5_obey_93 ?_
    refine g_callV (pc := 94) (rf2 := 3) (rl2 := 64) F cs_X5_78 (by assumption) rfl (by decide) (by rfl) (by rfl) (Nat.le_of_ble_eq_true (by rfl)) (by decide) dX5_obey_94 (c_X3_endTicks _ g _ h hk S t hr hi _) (fun v M2 hz => ?_)
    obtain ⟨rfl, z2, z3⟩ := hz
    refine g_iret (pc := 97) F r dX5_obey_97 ?_
    unfold oObey
    rw [if_neg n99, if_neg n112, if_pos n116]
    exact ⟨rfl, z2, z3⟩
  by_cases n119 : sgn tx tn st = 119
  · refine g_lookup (pc := 11) (off := 98) (tgt := 109) F dX5_obey_11 (by decide) (by exact (lv_osw n99 rfl).trans ((lv_osw n112 rfl).trans ((lv_osw n116 rfl).trans (osw_hit n119 rfl)))) (by decide) ?_
    refine g_aload_n (pc := 109) F dX5_obey_109 rfl ?_
    refine g_aload_n (pc := 110) F dX5_obey_110 rfl ?_
    refine g_getr (pc := 111) F fl_X5_9 (by assumption) rfl dX5_obey_111 ?_
    refine g_iconst (pc := 114) (v := 0) F dX5_obey_114 (by decide) ?_
    refine g_iald (pc := 115) (q := 0) F (by assumption) rfl (by decide) (by decide) dX5_obey_115 ?_
    refine g_callV (pc := 116) (rf2 := 2) (rl2 := 42) F cs_X5_85 (by assumption) rfl (by decide) (by rfl) (by rfl) (Nat.le_of_ble_eq_true (by rfl)) (by decide) dX5_obey_116 (c_X3_windClock _ g _ h hk S t hr hi _) (fun v M2 hz => ?_)
    obtain ⟨rfl, z2, z3⟩ := hz
    refine g_iret (pc := 119) F r dX5_obey_119 ?_
    unfold oObey
    rw [if_neg n99, if_neg n112, if_neg n116, if_pos n119]
    exact ⟨rfl, z2, z3⟩
  refine g_lookup (pc := 11) (off := 109) (tgt := 120) F dX5_obey_11 (by decide) (by exact (lv_osw n99 rfl).trans ((lv_osw n112 rfl).trans ((lv_osw n116 rfl).trans ((lv_osw n119 rfl).trans (rfl))))) (by decide) ?_
  refine g_aload_n (pc := 120) F dX5_obey_120 rfl ?_
  refine g_aload_n (pc := 121) F dX5_obey_121 rfl ?_
  refine g_getr (pc := 122) F fl_X5_9 (by assumption) rfl dX5_obey_122 ?_
  refine g_iconst (pc := 125) (v := 0) F dX5_obey_125 (by decide) ?_
  refine g_iald (pc := 126) (q := 0) F (by assumption) rfl (by decide) (by decide) dX5_obey_126 ?_
  refine g_aload_n (pc := 127) F dX5_obey_127 rfl ?_
  refine g_getr (pc := 128) F fl_X5_9 (by assumption) rfl dX5_obey_128 ?_
  refine g_iconst (pc := 131) (v := 1) F dX5_obey_131 (by decide) ?_
  refine g_iald (pc := 132) (q := 1) F (by assumption) rfl (by decide) (by decide) dX5_obey_132 ?_
  refine g_callV (pc := 133) (rf2 := 2) (rl2 := 40) F cs_X5_88 (by assumption) rfl (by decide) (by rfl) (by rfl) (Nat.le_of_ble_eq_true (by rfl)) (by decide) dX5_obey_133 (c_X3_joinGroup _ g _ h hk S t hr hi _ _) (fun v M2 hz => ?_)
  obtain ⟨rfl, z2, z3⟩ := hz
  refine g_iret (pc := 136) F r dX5_obey_136 ?_
  unfold oObey
  rw [if_neg n99, if_neg n112, if_neg n116, if_neg n119]
  exact ⟨rfl, z2, z3⟩

