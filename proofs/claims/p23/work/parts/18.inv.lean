/-! every call leaves a state; what it answers is not below 0 just where it changes something -/
def InvE (S : SV) : Prop := ∃ t, t ≤ 99999 ∧ Inv S t
def okR (S : SV) (r : Int32 × SV) : Prop := InvE r.2 ∧ (¬ r.1 < 0 ∨ (r.1 < 0 ∧ r.2 = S))
theorem CI_congr2 {w w' : Nat → Int32} {t : Nat} (h : CI w t) (e : ∀ j, j < 11 → w' j = w j) : CI w' t := by
  obtain ⟨la, a, b, c, d, p, gp, ag, sm, sq, hL, h5, hp, h6, g1, g2, h7, ha, h9, hs, h10, hq⟩ := h
  exact ⟨la, a, b, c, d, p, gp, ag, sm, sq, LI_congr hL (fun j hj => e j (by omega)), by rw [e 5 (by decide)]; exact h5, hp, by rw [e 6 (by decide)]; exact h6, g1, g2, by rw [e 7 (by decide)]; exact h7, ha, by rw [e 9 (by decide)]; exact h9, hs, by rw [e 10 (by decide)]; exact h10, TP_congr hq (e 8 (by decide))⟩
theorem Inv_setC {S : SV} {t i : Nat} {w : Nat → Int32} (h : Inv S t) (hi : i < cn S) (hw : CI w t) : Inv (setC S i w) t := by
  have hn := h.cn_le.1
  obtain ⟨h0, h1, h2, h3, h4, h5, h6⟩ := h
  have ec : cn (setC S i w) = cn S := by unfold cn; rw [setC_lo _ _ _ (by decide)]
  have eg : gn (setC S i w) = gn S := by unfold gn; rw [setC_lo _ _ _ (by decide)]
  refine ⟨?_, ?_, ?_, h3, ?_, ?_, ?_⟩
  · rw [setC_lo _ _ _ (by decide)]; exact h0
  · rw [setC_lo _ _ _ (by decide)]; exact h1
  · rw [setC_lo _ _ _ (by decide)]; exact h2
  · rw [setC_lo _ _ _ (by decide)]; exact h4
  · rw [ec]
    intro k hk
    by_cases hki : k = i
    · subst hki
      exact CI_congr hw (fun j hj => cw_setC _ _ _ hj)
    · exact CI_congr (h5 k hk) (fun j hj => cw_setC_ne _ _ hj hki)
  · rw [eg]
    intro k hk
    exact GI_congr (h6 k hk) (fun j hj => gw_setC _ _ (by omega) _ _)
theorem Inv_x {S : SV} {t x : Nat} (h : Inv S t) (hx : x < 10000) : Inv (upd S 3 (nI x)) t := by
  obtain ⟨h0, h1, h2, h3, h4, h5, h6⟩ := h
  have ec : cn (upd S 3 (nI x)) = cn S := by unfold cn; rw [upd_ne _ _ (by decide)]
  have eg : gn (upd S 3 (nI x)) = gn S := by unfold gn; rw [upd_ne _ _ (by decide)]
  refine ⟨by rw [upd_ne _ _ (by decide)]; exact h0, by rw [upd_ne _ _ (by decide)]; exact h1, by rw [upd_ne _ _ (by decide)]; exact h2, h3, ⟨x, hx, upd_self _ _ _⟩, ?_, ?_⟩
  · rw [ec]
    intro k hk
    rw [cw_upd_lo _ _ _ (by decide)]
    exact h5 k hk
  · rw [eg]
    intro k hk
    rw [gw_upd_lo _ _ _ (by decide)]
    exact h6 k hk
theorem Inv_setGr {S : SV} {t i : Nat} {w : Nat → Int32} (h : Inv S t) (hi : i < gn S) (hw : GI w t) : Inv (setGr S i w) t := by
  have hn := h.cn_le.1
  obtain ⟨h0, h1, h2, h3, h4, h5, h6⟩ := h
  have ec : cn (setGr S i w) = cn S := by unfold cn; rw [setGr_lo _ _ _ (by decide)]
  have eg : gn (setGr S i w) = gn S := by unfold gn; rw [setGr_lo _ _ _ (by decide)]
  refine ⟨?_, ?_, ?_, h3, ?_, ?_, ?_⟩
  · rw [setGr_lo _ _ _ (by decide)]; exact h0
  · rw [setGr_lo _ _ _ (by decide)]; exact h1
  · rw [setGr_lo _ _ _ (by decide)]; exact h2
  · rw [setGr_lo _ _ _ (by decide)]; exact h4
  · rw [ec]
    intro k hk
    exact CI_congr (h5 k hk) (fun j hj => cw_setGr _ _ _ (by omega) hj)
  · rw [eg]
    intro k hk
    by_cases hki : k = i
    · subst hki
      exact GI_congr hw (fun j hj => gw_setGr _ _ _ hj)
    · exact GI_congr (h6 k hk) (fun j hj => gw_setGr_ne _ _ hj hki)
theorem Inv_beg {S : SV} {t i : Nat} (h : Inv S t) (hi : i < cn S) : Inv (beg S i (cw S i 5 + 1)) t := by
  obtain ⟨x, hx, hx3⟩ := h.2.2.2.2.1
  obtain ⟨la, a, b, c, d, p, gp, ag, sm, sq, hL, h5, hp, h6, g1, g2, h7, ha, h9, hs, h10, hq⟩ := h.2.2.2.2.2.1 i hi
  have hP := NP_bound (la := la) (b := b) (c := c) (d := d) (hL.2.2.2.2.2.2.2.2.1)
  unfold beg
  rw [hx3]
  obtain ⟨x', q1, q2⟩ := bx_nI (w := cw S i) hx
  rw [q2]
  refine Inv_x (Inv_setC h hi ?_) q1
  rw [h5, nI_1]
  exact CI_bw hL hx (by omega) h9 (by omega) h10 hq
theorem nI_nneg {n : Nat} (h : n < 2147483648) : ¬ nI n < 0 := nI_pos h
theorem m1_neg : (-1000001 : Int32) < 0 ∧ (-1000002 : Int32) < 0 ∧ (-1000003 : Int32) < 0 ∧ (-1000004 : Int32) < 0 := by decide
theorem ok_no {S : SV} {t : Nat} (hi : Inv S t) (ht : t ≤ 99999) {v : Int32} (hv : v < 0) : okR S (v, S) := ⟨⟨t, ht, hi⟩, Or.inr ⟨hv, rfl⟩⟩
theorem ok_wind {S : SV} {t : Nat} (hi : Inv S t) (ht : t ≤ 99999) (x : Int32) : okR S (oWind S x) := by
  unfold oWind
  by_cases hc : inC S x
  · rw [if_pos hc]
    obtain ⟨i, h1, rfl⟩ := inC_ex hi hc
    have hn := hi.cn_le.1
    rw [ixN_nI (by omega)]
    have hB := Inv_beg hi h1
    have hcb : cn (beg S i (cw S i 5 + 1)) = cn S := cn_beg _ _ _
    have hCI := hB.2.2.2.2.2.1 i (by omega)
    have hW : Inv (wnd S i) t := by
      unfold wnd
      exact Inv_setC hB (by omega) (CI_congr2 hCI (fun j hj => upd_ne _ _ (by omega)))
    refine ⟨⟨t, ht, hW⟩, Or.inl ?_⟩
    obtain ⟨la, a, b, c, d, p, gp, ag, sm, sq, hL, h5, hp, h6, g1, g2, -⟩ := hW.2.2.2.2.2.1 i (by
      unfold wnd cn
      rw [setC_lo _ _ _ (by decide)]
      unfold cn at hcb
      rw [hcb]
      exact h1)
    show ¬ cw (wnd S i) i 6 < 0
    rw [h6]
    exact nI_nneg (by omega)
  · rw [if_neg hc]
    exact ok_no hi ht m1_neg.1
theorem ok_pass {S : SV} {t : Nat} (hi : Inv S t) (ht : t ≤ 99999) (x : Int32) : okR S (oPass S x) := by
  unfold oPass
  by_cases hc : inC S x
  · rw [if_pos hc]
    obtain ⟨i, h1, rfl⟩ := inC_ex hi hc
    have hn := hi.cn_le.1
    rw [ixN_nI (by omega)]
    have hCI := hi.2.2.2.2.2.1 i h1
    refine ⟨⟨t, ht, Inv_setC hi h1 (CI_congr2 hCI (fun j hj => by rw [upd_ne _ _ (by omega), upd_ne _ _ (by omega)]))⟩, Or.inl ?_⟩
    obtain ⟨la, a, b, c, d, p, gp, ag, sm, sq, hL, h5, hp, h6, g1, g2, h7, ha, -⟩ := hCI
    show ¬ cw S i 6 - cw S i 7 < 0
    rw [h6, h7, nI_sub (by omega)]
    exact nI_nneg (by omega)
  · rw [if_neg hc]
    exact ok_no hi ht m1_neg.1
theorem endsN_num {S : SV} {t : Nat} (hi : Inv S t) : ∀ k, t + k ≤ 100200 → ∃ q, q ≤ 6 * k ∧ (endsN S k).1 = nI q := by
  intro k
  induction k with
  | zero => intro _; exact ⟨0, by decide, nI0⟩
  | succ k ih =>
    intro hk
    obtain ⟨q, h1, h2⟩ := ih (by omega)
    obtain ⟨z, h3, h4⟩ := endsZ_nI (endsN_inv hi k (by omega))
    have := pop6_le z h3
    refine ⟨q + pop6 z, by omega, ?_⟩
    show (endsN S k).1 + jbc (endsZ (endsN S k).2) = _
    rw [h2, h4, jbc_nI z h3, nI_add]
theorem ok_tick {S : SV} {t : Nat} (hi : Inv S t) (ht : t ≤ 99999) (k : Int32) : okR S (oTick S k) := by
  unfold oTick
  by_cases hp : ticksP k
  · rw [if_pos hp]
    obtain ⟨n, h1, h2, rfl⟩ := ticksP_nI hp
    by_cases hl : S 2 + nI n ≤ 99999
    · rw [if_pos hl, ixN_nI (by omega)]
      rw [hi.2.2.1, nI_add] at hl
      have hl2 : t + n ≤ 99999 := (nI_leI (b := 99999) (by omega) (by decide)).mp hl
      obtain ⟨q, q1, q2⟩ := endsN_num hi n (by omega)
      exact ⟨⟨t + n, hl2, endsN_inv hi n (by omega)⟩, Or.inl (by rw [q2]; exact nI_nneg (by omega))⟩
    · rw [if_neg hl]
      exact ok_no hi ht m1_neg.2.2.1
  · rw [if_neg hp]
    exact ok_no hi ht m1_neg.1
theorem Inv_addC {S : SV} {t : Nat} {la a b c d : Int32} (hi : Inv S t) (hn : cn S < 6) (hp : clockP la a b c d) : Inv (addC S la a b c d) t := by
  obtain ⟨l', a', b', c', d', hL⟩ := clockP_LI (p := -1) hp
  obtain ⟨x, hx, hx3⟩ := hi.2.2.2.2.1
  obtain ⟨k1, k2, k3, k4⟩ := addC_cw (S := S) hL hx3 hx
  have hn6 := hi.cn_le
  have hm := hi.gn_le
  have e0 : addC S la a b c d 0 = nI (cn S + 1) := by rw [addC_lo _ _ _ _ _ _ (by decide), if_pos rfl, hn6.2, nI_1]
  have e1 : addC S la a b c d 1 = S 1 := by rw [addC_lo _ _ _ _ _ _ (by decide), if_neg (by decide)]
  have e2 : addC S la a b c d 2 = S 2 := by rw [addC_lo _ _ _ _ _ _ (by decide), if_neg (by decide)]
  have ec : cn (addC S la a b c d) = cn S + 1 := cn_of e0 (by omega)
  have eg : gn (addC S la a b c d) = gn S := by unfold gn; rw [e1]
  have e51 : w0 la a b c d (-1) 5 + 1 = nI 0 := by
    show (-1 : Int32) + 1 = nI 0
    decide
  obtain ⟨x', q1, q2⟩ := bx_nI (w := w0 la a b c d (-1)) hx
  refine ⟨⟨cn S + 1, by omega, e0⟩, ⟨gn S, hm.1, by rw [e1]; exact hm.2⟩, by rw [e2]; exact hi.2.2.1, hi.2.2.2.1, ⟨x', q1, by rw [k2, hx3]; exact q2⟩, ?_, ?_⟩
  · rw [ec]
    intro i hi'
    by_cases hin : i = cn S
    · subst hin
      refine CI_congr (w := bw (w0 la a b c d (-1)) (nI x) (nI 0)) (CI_bw (sm := 0) (sq := 0) hL hx (by decide) nI0 (Nat.zero_le _) nI0 ⟨Nat.zero_le _, 0, nI0, Nat.le_refl _, Nat.le_refl _⟩) (fun j hj => ?_)
      rw [k1 j hj, hx3, e51]
    · exact CI_congr (hi.2.2.2.2.2.1 i (by omega)) (fun j hj => k3 i hin j hj)
  · rw [eg]
    intro i hi'
    exact GI_congr (hi.2.2.2.2.2.2 i hi') (fun j hj => k4 hn i j)
theorem ok_clock {S : SV} {t : Nat} (hi : Inv S t) (ht : t ≤ 99999) (la a b c d : Int32) : okR S (oClock S la a b c d) := by
  unfold oClock
  have hn := hi.cn_le
  by_cases hp : clockP la a b c d
  · rw [if_pos hp]
    by_cases h6 : S 0 = 6
    · rw [if_pos h6]
      exact ok_no hi ht m1_neg.2.2.1
    · rw [if_neg h6]
      have hn6 : cn S < 6 := by
        rcases Nat.lt_or_ge (cn S) 6 with q | q
        · exact q
        · exfalso
          have : cn S = 6 := by omega
          rw [hn.2, this] at h6
          exact h6 rfl
      refine ⟨⟨t, ht, Inv_addC hi hn6 hp⟩, Or.inl ?_⟩
      show ¬ S 0 < 0
      rw [hn.2]
      exact nI_nneg (by omega)
  · rw [if_neg hp]
    exact ok_no hi ht m1_neg.1
theorem ok_group {S : SV} {t : Nat} (hi : Inv S t) (ht : t ≤ 99999) (la : Int32) : okR S (oGroup S la) := by
  unfold oGroup
  have hm := hi.gn_le
  have hn := hi.cn_le
  by_cases hp : lawP la
  · rw [if_pos hp]
    by_cases h6 : S 1 = 4
    · rw [if_pos h6]
      exact ok_no hi ht m1_neg.2.2.1
    · rw [if_neg h6]
      have hm4 : gn S < 4 := by
        rcases Nat.lt_or_ge (gn S) 4 with q | q
        · exact q
        · exfalso
          have : gn S = 4 := by omega
          rw [hm.2, this] at h6
          exact h6 rfl
      have lo : ∀ k, k < 4 → upd (setGr S (gn S) (g0 la)) 1 (S 1 + 1) k = if k = 1 then S 1 + 1 else S k := by
        intro k hk
        rw [upd_get]
        by_cases h1 : k = 1
        · rw [if_pos h1, if_pos h1]
        · rw [if_neg h1, if_neg h1, setGr_lo _ _ _ hk]
      have e1 : upd (setGr S (gn S) (g0 la)) 1 (S 1 + 1) 1 = nI (gn S + 1) := by rw [upd_self, hm.2, nI_1]
      have ec : cn (upd (setGr S (gn S) (g0 la)) 1 (S 1 + 1)) = cn S := by unfold cn; rw [lo 0 (by decide), if_neg (by decide)]
      have eg : gn (upd (setGr S (gn S) (g0 la)) 1 (S 1 + 1)) = gn S + 1 := gn_of e1 (by omega)
      show InvE (upd (setGr S (gn S) (g0 la)) 1 (S 1 + 1)) ∧ _
      refine ⟨⟨t, ht, ⟨cn S, hn.1, ?_⟩, ⟨gn S + 1, by omega, e1⟩, ?_, hi.2.2.2.1, ?_, ?_, ?_⟩, Or.inl ?_⟩
      · rw [lo 0 (by decide), if_neg (by decide)]; exact hn.2
      · rw [lo 2 (by decide), if_neg (by decide)]; exact hi.2.2.1
      · rw [lo 3 (by decide), if_neg (by decide)]; exact hi.2.2.2.2.1
      · rw [ec]
        intro k hk
        rw [cw_upd_lo _ _ _ (by decide)]
        exact CI_congr (hi.2.2.2.2.2.1 k hk) (fun j hj => cw_setGr _ _ _ (by omega) hj)
      · rw [eg]
        intro k hk
        rw [gw_upd_lo _ _ _ (by decide)]
        by_cases hki : k = gn S
        · subst hki
          obtain ⟨la', l1, rfl⟩ := lawP_nI hp
          exact GI_congr (r := g0 (nI la')) ⟨la', 0, 0, rfl, l1, nI0, by decide, by decide, nI0, Nat.zero_le _⟩ (fun j hj => gw_setGr _ _ _ hj)
        · exact GI_congr (hi.2.2.2.2.2.2 k (by omega)) (fun j hj => gw_setGr_ne _ _ hj hki)
      · show ¬ S 1 < 0
        rw [hm.2]
        exact nI_nneg (by omega)
  · rw [if_neg hp]
    exact ok_no hi ht m1_neg.1
theorem bit_or : ∀ z, z < 64 → ∀ i, i < 6 → nI z ||| (1 <<< (nI i &&& 31)) = nI (z ||| 2 ^ i) ∧ z ||| 2 ^ i < 64 ∧ pop6 (z ||| 2 ^ i) ≤ pop6 z + 1 := by decide +kernel
theorem bit_off : ∀ z, z < 64 → ∀ i, i < 6 → nI z &&& ((1 <<< (nI i &&& 31)) ^^^ -1) = nI (z &&& (63 - 2 ^ i)) ∧ z &&& (63 - 2 ^ i) < 64 ∧ pop6 (z &&& (63 - 2 ^ i)) ≤ pop6 z := by decide +kernel
theorem GI_mem {r : Nat → Int32} {t z : Nat} (h : GI r t) (hz : z < 64) (hp : pop6 z ≤ 4) : GI (upd r 1 (nI z)) t := by
  obtain ⟨la, y, mt, h0, h1, h2, h3, h4, h5, h6⟩ := h
  exact ⟨la, z, mt, by rw [upd_ne _ _ (by decide)]; exact h0, h1, upd_self _ _ _, hz, hp, by rw [upd_ne _ _ (by decide)]; exact h5, h6⟩
theorem ok_join {S : SV} {t : Nat} (hi : Inv S t) (ht : t ≤ 99999) (gx x : Int32) : okR S (oJoin S gx x) := by
  unfold oJoin
  by_cases hc : inG S gx ∧ inC S x
  · rw [if_pos hc]
    obtain ⟨gi, h1, rfl⟩ := inG_ex hi hc.1
    obtain ⟨i, h2, rfl⟩ := inC_ex hi hc.2
    have hn := hi.cn_le.1
    have hm := hi.gn_le.1
    rw [ixN_nI (by omega), ixN_nI (by omega)]
    by_cases hb : cw S i 0 ≠ gw S gi 0 ∨ isIn (gw S gi 1) i
    · rw [if_pos hb]
      exact ok_no hi ht m1_neg.2.1
    · rw [if_neg hb]
      by_cases h4 : jbc (gw S gi 1) < 4
      · rw [if_pos h4]
        have hG := hi.2.2.2.2.2.2 gi h1
        obtain ⟨la, z, mt, q0, q1, q2, q3, q4, q5, q6⟩ := id hG
        obtain ⟨b1, b2, b3⟩ := bit_or z q3 i (by omega)
        rw [q2, jbc_nI z q3] at h4
        have h44 : pop6 z < 4 := (nI_ltI (b := 4) (by omega) (by decide)).mp h4
        rw [q2, b1, jbc_nI _ b2]
        exact ⟨⟨t, ht, Inv_setGr hi h1 (GI_mem hG b2 (by omega))⟩, Or.inl (nI_nneg (by omega))⟩
      · rw [if_neg h4]
        exact ok_no hi ht m1_neg.2.2.1
  · rw [if_neg hc]
    exact ok_no hi ht m1_neg.1
theorem ok_leave {S : SV} {t : Nat} (hi : Inv S t) (ht : t ≤ 99999) (gx x : Int32) : okR S (oLeave S gx x) := by
  unfold oLeave
  by_cases hc : inG S gx ∧ inC S x
  · rw [if_pos hc]
    obtain ⟨gi, h1, rfl⟩ := inG_ex hi hc.1
    obtain ⟨i, h2, rfl⟩ := inC_ex hi hc.2
    have hn := hi.cn_le.1
    have hm := hi.gn_le.1
    rw [ixN_nI (by omega), ixN_nI (by omega)]
    by_cases hb : isIn (gw S gi 1) i
    · rw [if_pos hb]
      have hG := hi.2.2.2.2.2.2 gi h1
      obtain ⟨la, z, mt, q0, q1, q2, q3, q4, q5, q6⟩ := id hG
      obtain ⟨b1, b2, b3⟩ := bit_off z q3 i (by omega)
      rw [q2, b1, jbc_nI _ b2]
      exact ⟨⟨t, ht, Inv_setGr hi h1 (GI_mem hG b2 (by omega))⟩, Or.inl (nI_nneg (by omega))⟩
    · rw [if_neg hb]
      exact ok_no hi ht m1_neg.2.1
  · rw [if_neg hc]
    exact ok_no hi ht m1_neg.1
