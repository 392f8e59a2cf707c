/-! the check: an order is read -/
theorem upd_idem (f : Nat → Int32) (k : Nat) (x y : Int32) : upd (upd f k x) k y = upd f k y := by
  funext j
  unfold upd
  split <;> rfl
theorem upd_id {f : Nat → Int32} {k : Nat} {x : Int32} (h : f k = x) : upd f k x = f := by
  funext j
  unfold upd
  split
  · next e => rw [e]; exact h.symm
  · rfl
def ordS (s : Nat → Int32) (p : Nat) : Int32 := if 33 ≤ s p ∧ s p ≤ 126 then s p else 0
theorem wants_rng {c : Int32} (h : ¬ wants c = 0) : 33 ≤ c ∧ c ≤ 126 := by
  unfold wants at h
  by_cases h1 : c = 99
  · rw [h1]; decide
  · by_cases h2 : c = 106
    · rw [h2]; decide
    · by_cases h3 : c = 112
      · rw [h3]; decide
      · by_cases h4 : c = 116
        · rw [h4]; decide
        · by_cases h5 : c = 119
          · rw [h5]; decide
          · rw [if_neg h1, if_neg h2, if_neg h3, if_neg h4, if_neg h5] at h
            exact absurd rfl h
theorem wants_ord (s : Nat → Int32) (p : Nat) : wants (ordS s p) = wants (s p) := by
  unfold ordS
  split
  · rfl
  · next h => exact ((Classical.byContradiction fun q => h (wants_rng q)) : wants (s p) = 0).symm
theorem ord_eq {s : Nat → Int32} {p : Nat} (h : ¬ wants (s p) = 0) : ordS s p = s p := if_pos (wants_rng h)
theorem nm_row (M : Mem) (tn p ix j : Nat) : nmM M tn p ix j 224 = upd (M 224) 8 (nI (p + j)) := (upd2_row _ _ _ _).trans (by rw [upd2_k _ _ _ (by decide)])
theorem nm_230 (M : Mem) (tn p ix j : Nat) : nmM M tn p ix j 230 = upd (M 230) ix (nv (sgn (M 229) tn) p j) := (upd2_k _ _ _ (by decide)).trans (upd2_row _ _ _ _)
theorem nm_o (M : Mem) (tn p ix j : Nat) {a : Nat} (h1 : a ≠ 224) (h2 : a ≠ 230) : nmM M tn p ix j a = M a := (upd2_k _ _ _ h1).trans (upd2_k _ _ _ h2)
/-- behind the number i - 1 (of w), at q -/
def sepR (s : Nat → Int32) (w i q : Nat) (nb : Nat → Int32) : Bool × Nat × (Nat → Int32) := if s q = (if w - i = 0 then 59 else 44) then rdN s w (w - i) (q + 1) nb else (false, q, nb)
theorem rdN_sep (s : Nat → Int32) {w n i p : Nat} (hi : i + 1 + n = w) (nb : Nat → Int32) : rdN s w (n + 1) p nb = if dgs s p = 0 then (false, p, nb) else sepR s w (i + 1) (p + dgs s p) (upd nb i (nv s p (dgs s p))) := by
  unfold rdN sepR
  rw [show w - (i + 1) = n by omega, show w - (n + 1) = i by omega]
abbrev z0 : Nat → Int32 := fun _ => 0
abbrev rdP (s : Nat → Int32) (M : Mem) (p : Nat) (r : Bool × Nat × (Nat → Int32)) (M2 : Mem) : Prop := (∀ a, a ≠ 224 → a ≠ 230 → M2 a = M a) ∧ M2 224 = upd (upd (M 224) 13 (ordS s p)) 8 (nI r.2.1) ∧ (r.1 = true → ∀ j, j < wants (s p) → M2 230 j = r.2.2 j)
set_option maxHeartbeats 4000000 in
set_option maxRecDepth 100000 in
theorem c_X8_reads (l : Launch) (g : Gm) (M : Mem) (tn : Nat) (htn6 : tn ≤ 60) (htn : M 224 7 = nI tn) (p : Nat) (hp : p < 1000) (hsp : M 224 8 = nI p) (hlt : p < tn) : Cn l yX8_reads cX8_reads 4 (some .boolean) 3 66 g [.ref (ad g 224)] M (fun v M2 => v = some (.int (b2i ((rdO (sgn (M 229) tn) p z0).1 = true))) ∧ rdP (sgn (M 229) tn) M p (rdO (sgn (M 229) tn) p z0) M2) := by
  refine Cn.intro (lv0 := [some (.ref (ad g 224)), none, none, none]) 3 (by decide +kernel) (Nat.le_of_ble_eq_true rfl) rfl (fun X F r => ?_)
  have k224 := kd224
  have k225 := kd225
  have k229 := kd229
  have k230 := kd230
  have hw5 := wants_le ((sgn (M 229) tn) p)
  have Z : ∀ (y : Int32) (M1 : Mem) (q : Nat) (nb : Nat → Int32), (∀ a, a ≠ 224 → a ≠ 230 → M1 a = M a) → M1 224 = upd (upd (M 224) 13 (ordS (sgn (M 229) tn) p)) 8 (nI q) → rdO (sgn (M 229) tn) p z0 = (false, q, nb) → G X g 4 M1 60 [some (.ref (ad g 224)), some (.int (nI (wants ((sgn (M 229) tn) p)))), some (.int 0), some (.int y)] [] := by
    intro y M1 q nb hfr hrow hR
    refine g_iload_n (pc := 60) F dX8_reads_60 rfl ?_
    refine g_iload_n (pc := 61) F dX8_reads_61 rfl ?_
    refine g_icmp_ge (pc := 62) (tgt := 98) F dX8_reads_62 (by decide) (fun c62 => ?_) (fun c62 => ?_)
    · refine g_iload_n (pc := 98) F dX8_reads_98 rfl ?_
      refine g_if_eq (pc := 99) (tgt := 115) F dX8_reads_99 (by decide) (fun c99 => ?_) (fun c99 => ?_)
      · refine g_iconst (pc := 115) (v := 0) F dX8_reads_115 (by decide) ?_
        refine g_zret (pc := 116) F (by decide) r dX8_reads_116 ?_
        rw [hR]
        exact ⟨rfl, hfr, hrow, fun e => by cases e⟩
      · exact absurd rfl c99
    · refine g_iload_n (pc := 65) F dX8_reads_65 rfl ?_
      refine g_if_eq (pc := 66) (tgt := 98) F dX8_reads_66 (by decide) (fun c66 => ?_) (fun c66 => ?_)
      · refine g_iload_n (pc := 98) F dX8_reads_98 rfl ?_
        refine g_if_eq (pc := 99) (tgt := 115) F dX8_reads_99 (by decide) (fun c99 => ?_) (fun c99 => ?_)
        · refine g_iconst (pc := 115) (v := 0) F dX8_reads_115 (by decide) ?_
          refine g_zret (pc := 116) F (by decide) r dX8_reads_116 ?_
          rw [hR]
          exact ⟨rfl, hfr, hrow, fun e => by cases e⟩
        · exact absurd rfl c99
      · exact absurd rfl c66
  have L : ∀ (n i : Nat) (y : Int32) (M1 : Mem) (q : Nat) (nb : Nat → Int32), i + n = wants ((sgn (M 229) tn) p) → 1 ≤ i → y = nI i → (∀ a, a ≠ 224 → a ≠ 230 → M1 a = M a) → M1 224 = upd (upd (M 224) 13 (ordS (sgn (M 229) tn) p)) 8 (nI q) → q ≤ tn → (∀ j, j < i → M1 230 j = nb j) → rdO (sgn (M 229) tn) p z0 = sepR (sgn (M 229) tn) (wants ((sgn (M 229) tn) p)) i q nb → G X g 4 M1 60 [some (.ref (ad g 224)), some (.int (nI (wants ((sgn (M 229) tn) p)))), some (.int 1), some (.int y)] [] := by
    intro n
    induction n with
    | zero =>
      intro i y M1 q nb hin hi1 hy hfr hrow hq hnb hR
      obtain rfl : i = wants ((sgn (M 229) tn) p) := by omega
      have e229 : M1 229 = M 229 := hfr 229 (by decide) (by decide)
      have e7 : M1 224 7 = nI tn := by rw [hrow, upd_ne _ _ (by decide), upd_ne _ _ (by decide)]; exact htn
      have e8 : M1 224 8 = nI q := by rw [hrow, upd_self]
      refine g_iload_n (pc := 60) F dX8_reads_60 rfl ?_
      refine g_iload_n (pc := 61) F dX8_reads_61 rfl ?_
      refine g_icmp_ge (pc := 62) (tgt := 98) F dX8_reads_62 (by decide) (fun c62 => ?_) (fun c62 => ?_)
      · refine g_iload_n (pc := 98) F dX8_reads_98 rfl ?_
        refine g_if_eq (pc := 99) (tgt := 115) F dX8_reads_99 (by decide) (fun c99 => ?_) (fun c99 => ?_)
        · exact absurd c99 (by decide)
        · refine g_aload_n (pc := 102) F dX8_reads_102 rfl ?_
          refine g_bipush (pc := 103) (v := 59) F dX8_reads_103 (by decide) ?_
          refine g_callV (pc := 105) (rf2 := 2) (rl2 := 44) F cs_X8_166 k224 rfl (by decide) (by rfl) (by rfl) (Nat.le_of_ble_eq_true (by rfl)) (by decide) dX8_reads_105 (c_X8_sign _ g M1 tn htn6 e7 q (by omega) e8 59 (by decide)) (fun v M3 hz => ?_)
          obtain ⟨rfl, h3⟩ := hz
          rw [h3, e229]
          have hse : sepR (sgn (M 229) tn) (wants ((sgn (M 229) tn) p)) (wants ((sgn (M 229) tn) p)) q nb = if (sgn (M 229) tn) q = 59 then (true, q + 1, nb) else (false, q, nb) := by
            unfold sepR
            rw [Nat.sub_self, if_pos rfl]
            rfl
          rw [hse] at hR
          refine g_if_eq (pc := 108) (tgt := 115) F dX8_reads_108 (by decide) (fun c108 => ?_) (fun c108 => ?_)
          · have hn := b2i_0 c108
            rw [if_neg hn] at hR
            rw [if_neg hn, Nat.add_zero]
            refine g_iconst (pc := 115) (v := 0) F dX8_reads_115 (by decide) ?_
            refine g_zret (pc := 116) F (by decide) r dX8_reads_116 ?_
            rw [hR]
            refine ⟨rfl, fun a h1 h2 => (upd2_k _ _ _ h1).trans (hfr a h1 h2), ?_, fun e => by cases e⟩
            rw [upd2_row, hrow, upd_idem]
          · have hn := b2i_1 c108
            rw [if_pos hn] at hR
            rw [if_pos hn]
            refine g_iconst (pc := 111) (v := 1) F dX8_reads_111 (by decide) ?_
            refine g_goto (pc := 112) (tgt := 116) F dX8_reads_112 (by decide) ?_
            refine g_zret (pc := 116) F (by decide) r dX8_reads_116 ?_
            rw [hR]
            refine ⟨rfl, fun a h1 h2 => (upd2_k _ _ _ h1).trans (hfr a h1 h2), ?_, fun _ j hj => ?_⟩
            · rw [upd2_row, hrow, upd_idem]
            · rw [upd2_k _ _ _ (show (230 : Nat) ≠ 224 by decide)]
              exact hnb j hj
      · exact absurd (by rw [hy]; exact nI_le (by omega) (by omega)) c62
    | succ n ih =>
      intro i y M1 q nb hin hi1 hy hfr hrow hq hnb hR
      have e229 : M1 229 = M 229 := hfr 229 (by decide) (by decide)
      have e7 : M1 224 7 = nI tn := by rw [hrow, upd_ne _ _ (by decide), upd_ne _ _ (by decide)]; exact htn
      have e8 : M1 224 8 = nI q := by rw [hrow, upd_self]
      refine g_iload_n (pc := 60) F dX8_reads_60 rfl ?_
      refine g_iload_n (pc := 61) F dX8_reads_61 rfl ?_
      refine g_icmp_ge (pc := 62) (tgt := 98) F dX8_reads_62 (by decide) (fun c62 => ?_) (fun c62 => ?_)
      · exact absurd c62 (by rw [hy]; exact nI_ge (a := i) (by omega) (by omega))
      · refine g_iload_n (pc := 65) F dX8_reads_65 rfl ?_
        refine g_if_eq (pc := 66) (tgt := 98) F dX8_reads_66 (by decide) (fun c66 => ?_) (fun c66 => ?_)
        · exact absurd c66 (by decide)
        · refine g_aload_n (pc := 69) F dX8_reads_69 rfl ?_
          refine g_bipush (pc := 70) (v := 44) F dX8_reads_70 (by decide) ?_
          refine g_callV (pc := 72) (rf2 := 2) (rl2 := 44) F cs_X8_166 k224 rfl (by decide) (by rfl) (by rfl) (Nat.le_of_ble_eq_true (by rfl)) (by decide) dX8_reads_72 (c_X8_sign _ g M1 tn htn6 e7 q (by omega) e8 44 (by decide)) (fun v M3 hz => ?_)
          obtain ⟨rfl, h3⟩ := hz
          rw [h3, e229]
          have hse : sepR (sgn (M 229) tn) (wants ((sgn (M 229) tn) p)) i q nb = if (sgn (M 229) tn) q = 44 then rdN (sgn (M 229) tn) (wants ((sgn (M 229) tn) p)) (n + 1) (q + 1) nb else (false, q, nb) := by
            unfold sepR
            rw [show wants ((sgn (M 229) tn) p) - i = n + 1 by omega, if_neg (Nat.succ_ne_zero n)]
          rw [hse] at hR
          refine g_if_eq (pc := 75) (tgt := 90) F dX8_reads_75 (by decide) (fun c75 => ?_) (fun c75 => ?_)
          · have hn := b2i_0 c75
            rw [if_neg hn] at hR
            rw [if_neg hn, Nat.add_zero]
            refine g_iconst (pc := 90) (v := 0) F dX8_reads_90 (by decide) ?_
            refine g_istore_n (pc := 91) F dX8_reads_91 (by decide) rfl ?_
            refine g_iinc (pc := 92) F dX8_reads_92 rfl rfl (by decide) rfl ?_
            refine g_goto (pc := 95) (tgt := 60) F dX8_reads_95 (by decide) ?_
            exact Z _ _ q nb (fun a h1 h2 => (upd2_k _ _ _ h1).trans (hfr a h1 h2)) (by rw [upd2_row, hrow, upd_idem]) hR
          · have hn := b2i_1 c75
            rw [if_pos hn, rdN_sep (sgn (M 229) tn) (i := i) (by omega)] at hR
            rw [if_pos hn]
            have hq1 : q + 1 ≤ tn := by
              by_cases hlt : q < tn
              · omega
              · rw [sgn_out hlt] at hn
                exact absurd hn (by decide)
            refine g_aload_n (pc := 78) F dX8_reads_78 rfl ?_
            refine g_iload_n (pc := 79) F dX8_reads_79 rfl ?_
            refine g_stk (st' := [.int (nI i), .ref (ad g 224)]) (by rw [hy] <;> rfl) ?_
            have f229 : upd2 M1 224 8 (nI (q + 1)) 229 = M 229 := (upd2_k _ _ _ (by decide)).trans e229
            refine g_callV (pc := 80) (rf2 := 2) (rl2 := 44) F cs_X8_163 k224 rfl (by decide) (by rfl) (by rfl) (Nat.le_of_ble_eq_true (by rfl)) (by decide) dX8_reads_80 (c_X8_numbered _ g (upd2 M1 224 8 (nI (q + 1))) tn htn6 (by rw [upd2_j _ _ _ (by decide)]; exact e7) (q + 1) (by omega) (upd2_self _ _ _ _) hq1 i (by omega)) (fun v M4 hz => ?_)
            obtain ⟨rfl, h4⟩ := hz
            rw [h4]
            rw [f229]
            refine g_if_eq (pc := 83) (tgt := 90) F dX8_reads_83 (by decide) (fun c83 => ?_) (fun c83 => ?_)
            · have hd : dgs (sgn (M 229) tn) (q + 1) = 0 := Classical.byContradiction fun e => b2i_0 c83 e
              rw [if_pos hd] at hR
              refine g_iconst (pc := 90) (v := 0) F dX8_reads_90 (by decide) ?_
              refine g_istore_n (pc := 91) F dX8_reads_91 (by decide) rfl ?_
              refine g_iinc (pc := 92) F dX8_reads_92 rfl rfl (by decide) rfl ?_
              refine g_goto (pc := 95) (tgt := 60) F dX8_reads_95 (by decide) ?_
              exact Z _ _ (q + 1) nb (fun a h1 h2 => (nm_o _ _ _ _ _ h1 h2).trans ((upd2_k _ _ _ h1).trans (hfr a h1 h2))) (by rw [nm_row, upd2_row, hrow, upd_idem, upd_idem, hd, Nat.add_zero]) hR
            · have hd : ¬ dgs (sgn (M 229) tn) (q + 1) = 0 := b2i_1 c83
              rw [if_neg hd] at hR
              refine g_iconst (pc := 86) (v := 1) F dX8_reads_86 (by decide) ?_
              refine g_goto (pc := 87) (tgt := 91) F dX8_reads_87 (by decide) ?_
              refine g_istore_n (pc := 91) F dX8_reads_91 (by decide) rfl ?_
              refine g_iinc (pc := 92) F dX8_reads_92 rfl rfl (by decide) rfl ?_
              refine g_goto (pc := 95) (tgt := 60) F dX8_reads_95 (by decide) ?_
              refine ih (i + 1) _ _ (q + 1 + dgs (sgn (M 229) tn) (q + 1)) (upd nb i (nv (sgn (M 229) tn) (q + 1) (dgs (sgn (M 229) tn) (q + 1)))) (by omega) (by omega) (by rw [hy]; exact nI_1 i) (fun a h1 h2 => (nm_o _ _ _ _ _ h1 h2).trans ((upd2_k _ _ _ h1).trans (hfr a h1 h2))) (by rw [nm_row, upd2_row, hrow, upd_idem, upd_idem]) (dgs_in (tx := M 229) hq1) (fun j hj => ?_) hR
              rw [nm_230, f229, upd2_k _ _ _ (show (230 : Nat) ≠ 224 by decide), upd_get, upd_get]
              by_cases hji : j = i
              · rw [if_pos hji, if_pos hji]
              · rw [if_neg hji, if_neg hji]
                exact hnb j (by omega)
  have T : G X g 4 M 25 [some (.ref (ad g 224)), none, none, none] [.int (ordS (sgn (M 229) tn) p), .ref (ad g 224)] := by
    refine g_puti (pc := 25) F fl_X8_157 rfl rfl (by assumption) rfl dX8_reads_25 ?_
    refine g_aload_n (pc := 28) F dX8_reads_28 rfl ?_
    refine g_geti (pc := 29) F fl_X8_157 k224 rfl dX8_reads_29 ?_
    refine g_stk (st' := [.int (ordS (sgn (M 229) tn) p)]) (by rw [upd2_self]) ?_
    refine g_callS (pc := 32) (rf2 := 0) (rl2 := 0) F cs_X8_160 (by rfl) (by rfl) (Nat.le_of_ble_eq_true (by rfl)) (by decide) dX8_reads_32 (c_X8_numbersOf _ g _ _) (fun v M3 hz => ?_)
    obtain ⟨rfl, h3⟩ := hz
    rw [h3, wants_ord]
    refine g_istore_n (pc := 35) F dX8_reads_35 (by decide) rfl ?_
    refine g_iload_n (pc := 36) F dX8_reads_36 rfl ?_
    refine g_if_ne (pc := 37) (tgt := 42) F dX8_reads_37 (by decide) (fun c37 => ?_) (fun c37 => ?_)
    · have hw0 : ¬ wants (sgn (M 229) tn p) = 0 := fun e => c37 (by rw [e]; rfl)
      refine g_aload_n (pc := 42) F dX8_reads_42 rfl ?_
      refine g_dup (pc := 43) F dX8_reads_43 rfl ?_
      refine g_geti (pc := 44) F fl_X8_151 (by assumption) rfl dX8_reads_44 ?_
      refine g_iconst (pc := 47) (v := 1) F dX8_reads_47 (by decide) ?_
      refine g_iadd (pc := 48) F dX8_reads_48 ?_
      refine g_puti (pc := 49) F fl_X8_151 rfl rfl (by assumption) rfl dX8_reads_49 ?_
      generalize hMa : upd2 (upd2 M 224 13 (ordS (sgn (M 229) tn) p)) 224 8 (upd2 M 224 13 (ordS (sgn (M 229) tn) p) 224 8 + 1) = Ma
      have hfr : ∀ a, a ≠ 224 → Ma a = M a := fun a h1 => by rw [← hMa]; exact (upd2_k _ _ _ h1).trans (upd2_k _ _ _ h1)
      have hrow : Ma 224 = upd (upd (M 224) 13 (ordS (sgn (M 229) tn) p)) 8 (nI (p + 1)) := by
        rw [← hMa, upd2_row, upd2_row, upd_ne _ _ (show (8 : Nat) ≠ 13 by decide), hsp, nI_1]
      have f229 : Ma 229 = M 229 := hfr 229 (by decide)
      refine g_aload_n (pc := 52) F dX8_reads_52 rfl ?_
      refine g_iconst (pc := 53) (v := 0) F dX8_reads_53 (by decide) ?_
      refine g_stk (st' := [.int (nI 0), .ref (ad g 224)]) rfl ?_
      refine g_callV (pc := 54) (rf2 := 2) (rl2 := 44) F cs_X8_163 k224 rfl (by decide) (by rfl) (by rfl) (Nat.le_of_ble_eq_true (by rfl)) (by decide) dX8_reads_54 (c_X8_numbered _ g Ma tn htn6 (by rw [hrow, upd_ne _ _ (by decide), upd_ne _ _ (by decide)]; exact htn) (p + 1) (by omega) (by rw [hrow, upd_self]) (by omega) 0 (by decide)) (fun v M4 hz => ?_)
      obtain ⟨rfl, h4⟩ := hz
      rw [h4, f229]
      have hR : rdO (sgn (M 229) tn) p z0 = if dgs (sgn (M 229) tn) (p + 1) = 0 then (false, p + 1, z0) else sepR (sgn (M 229) tn) (wants ((sgn (M 229) tn) p)) 1 (p + 1 + dgs (sgn (M 229) tn) (p + 1)) (upd z0 0 (nv (sgn (M 229) tn) (p + 1) (dgs (sgn (M 229) tn) (p + 1)))) := by
        unfold rdO
        rw [if_neg hw0]
        have e := rdN_sep (sgn (M 229) tn) (w := wants ((sgn (M 229) tn) p)) (n := wants ((sgn (M 229) tn) p) - 1) (i := 0) (p := p + 1) (by omega) z0
        rw [show wants ((sgn (M 229) tn) p) - 1 + 1 = wants ((sgn (M 229) tn) p) by omega] at e
        exact e
      refine g_istore_n (pc := 57) F dX8_reads_57 (by decide) rfl ?_
      refine g_iconst (pc := 58) (v := 1) F dX8_reads_58 (by decide) ?_
      refine g_istore_n (pc := 59) F dX8_reads_59 (by decide) rfl ?_
      by_cases hd : dgs (sgn (M 229) tn) (p + 1) = 0
      · rw [if_pos hd] at hR
        rw [show b2i (¬ dgs (sgn (M 229) tn) (p + 1) = 0) = 0 from if_neg (fun q => q hd)]
        exact Z _ _ (p + 1) z0 (fun a h1 h2 => (nm_o _ _ _ _ _ h1 h2).trans (hfr a h1)) (by rw [nm_row, hrow, upd_idem, hd, Nat.add_zero]) hR
      · rw [if_neg hd] at hR
        rw [show b2i (¬ dgs (sgn (M 229) tn) (p + 1) = 0) = 1 from if_pos hd]
        refine L (wants ((sgn (M 229) tn) p) - 1) 1 _ _ (p + 1 + dgs (sgn (M 229) tn) (p + 1)) _ (by omega) (Nat.le_refl 1) nI1 (fun a h1 h2 => (nm_o _ _ _ _ _ h1 h2).trans (hfr a h1)) (by rw [nm_row, hrow, upd_idem]) (dgs_in (tx := M 229) (by omega)) (fun j hj => ?_) hR
        obtain rfl : j = 0 := by omega
        rw [nm_230, f229, upd_self, upd_self]
    · have hw0 : wants (sgn (M 229) tn p) = 0 := by
        rw [nI0, nI_inj (by omega) (by decide)] at c37
        exact c37
      refine g_iconst (pc := 40) (v := 0) F dX8_reads_40 (by decide) ?_
      refine g_zret (pc := 41) F (by decide) r dX8_reads_41 ?_
      have e : rdO (sgn (M 229) tn) p z0 = (false, p, z0) := if_pos hw0
      rw [e]
      refine ⟨rfl, fun a h1 h2 => upd2_k _ _ _ h1, ?_, fun e => by cases e⟩
      rw [upd2_row]
      exact (upd_id (by rw [upd_ne _ _ (by decide)]; exact hsp)).symm
  refine g_aload_n (pc := 0) F dX8_reads_0 rfl ?_
  refine g_aload_n (pc := 1) F dX8_reads_1 rfl ?_
  refine g_bipush (pc := 2) (v := 33) F dX8_reads_2 (by decide) ?_
  refine g_bipush (pc := 4) (v := 126) F dX8_reads_4 (by decide) ?_
  refine g_callV (pc := 6) (rf2 := 1) (rl2 := 22) F cs_X8_154 k224 rfl (by decide) (by rfl) (by rfl) (Nat.le_of_ble_eq_true (by rfl)) (by decide) dX8_reads_6 (c_X8_isAt _ g _ tn htn6 htn p hp hsp 33 126 (by decide)) (fun v M2 hz => ?_)
  obtain ⟨rfl, h2⟩ := hz
  rw [h2]
  refine g_if_eq (pc := 9) (tgt := 24) F dX8_reads_9 (by decide) (fun c9 => ?_) (fun c9 => ?_)
  · have eo : (0 : Int32) = ordS (sgn (M 229) tn) p := (if_neg (b2i_0 c9)).symm
    refine g_iconst (pc := 24) (v := 0) F dX8_reads_24 (by decide) ?_
    rw [eo]
    exact T
  · have eo : M 229 p = ordS (sgn (M 229) tn) p := ((if_pos (b2i_1 c9) : ordS (sgn (M 229) tn) p = _).trans (sgn_lt hlt)).symm
    refine g_aload_n (pc := 12) F dX8_reads_12 rfl ?_
    refine g_getr (pc := 13) F fl_X8_22 (by assumption) rfl dX8_reads_13 ?_
    refine g_aload_n (pc := 16) F dX8_reads_16 rfl ?_
    refine g_geti (pc := 17) F fl_X8_151 (by assumption) rfl dX8_reads_17 ?_
    refine g_iald (pc := 20) (q := p) F k229 rfl hsp (by omega) dX8_reads_20 ?_
    refine g_goto (pc := 21) (tgt := 25) F dX8_reads_21 (by decide) ?_
    rw [eo]
    exact T

