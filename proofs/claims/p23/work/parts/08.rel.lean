/-! THE CLASS'S HALL AGAINST THE STATE -/
def rnd (la : Int32) (f : Nat → Int32) : Nat → Int32 := rndR (fun _ => 0) la f
/-- a clock's four rows say what the fifteen numbers w say -/
def CRr (r0 r1 r2 r3 w : Nat → Int32) : Prop := r0 0 = w 0 ∧ (∀ j, j < 4 → r1 j = w (1 + j)) ∧ r0 2 = w 5 ∧ r0 3 = w 6 ∧ r0 4 = w 6 - w 7 ∧ r0 5 = w 12 ∧ r0 6 = w 13 ∧ r0 7 = w 14 ∧ r2 0 = w 8 ∧ r2 1 = w 9 ∧ r2 2 = w 10 ∧ r2 3 = (w 10 + w 9) / 2 ∧ r2 4 = w 11 ∧ ∀ j, j < 5 → r3 j = rnd (w 0) (fun j => w (1 + j)) j
abbrev CR (M : Mem) (c : Nat) (w : Nat → Int32) : Prop := CRr (M c) (M (c + 1)) (M (c + 2)) (M (c + 3)) w
theorem radd_congr {r r' : Nat → Int32} (gp t : Int32) (h : ∀ j, j < 5 → r j = r' j) : ∀ j, j < 5 → radd r gp t j = radd r' gp t j := by
  intro j hj
  unfold radd
  rw [h 0 (by decide), h 1 (by decide), h 2 (by decide), h 3 (by decide), h 4 (by decide), h j hj]
theorem radc_congr {r r' : Nat → Int32} (x : Int32) (h : ∀ j, j < 5 → r j = r' j) : ∀ j, j < 5 → radc r x j = radc r' x j := by
  intro j hj
  unfold radc
  split
  · exact radd_congr x 1 h j hj
  · exact h j hj
theorem rndR_congr {r r' f f' : Nat → Int32} (la : Int32) (h : ∀ j, j < 5 → r j = r' j) (hf : ∀ j, j < 4 → f j = f' j) : ∀ j, j < 5 → rndR r la f j = rndR r' la f' j := by
  intro j hj
  unfold rndR
  split
  · rw [hf 0 (by decide), hf 1 (by decide), hf 2 (by decide)]
    exact radd_congr _ _ (radd_congr _ _ h) j hj
  · show radc (radc (radc (radc r (f 0)) (f 1)) (f 2)) (f 3) j = radc (radc (radc (radc r' (f' 0)) (f' 1)) (f' 2)) (f' 3) j
    rw [hf 0 (by decide), hf 1 (by decide), hf 2 (by decide), hf 3 (by decide)]
    exact radc_congr _ (radc_congr _ (radc_congr _ (radc_congr _ h))) j hj
theorem CRr_congr {r0 r1 r2 r3 w w' : Nat → Int32} (h : CRr r0 r1 r2 r3 w) (e : ∀ j, j < 15 → w' j = w j) : CRr r0 r1 r2 r3 w' := by
  obtain ⟨h0, h1, h2, h3, h4, h5, h6, h7, h8, h9, h10, h11, h12, h13⟩ := h
  refine ⟨?_, fun j hj => ?_, ?_, ?_, ?_, ?_, ?_, ?_, ?_, ?_, ?_, ?_, ?_, fun j hj => ?_⟩
  · rw [e 0 (by decide)]; exact h0
  · rw [e _ (by omega)]; exact h1 j hj
  · rw [e 5 (by decide)]; exact h2
  · rw [e 6 (by decide)]; exact h3
  · rw [e 6 (by decide), e 7 (by decide)]; exact h4
  · rw [e 12 (by decide)]; exact h5
  · rw [e 13 (by decide)]; exact h6
  · rw [e 14 (by decide)]; exact h7
  · rw [e 8 (by decide)]; exact h8
  · rw [e 9 (by decide)]; exact h9
  · rw [e 10 (by decide)]; exact h10
  · rw [e 9 (by decide), e 10 (by decide)]; exact h11
  · rw [e 11 (by decide)]; exact h12
  · rw [e 0 (by decide), h13 j hj]
    exact rndR_congr _ (fun _ _ => rfl) (fun i hi => (e _ (by omega)).symm) j hj
/-- rows alike where they count -/
theorem CRr_rows {r0 r1 r2 r3 s0 s1 s2 s3 w : Nat → Int32} (h : CRr r0 r1 r2 r3 w) (e0 : ∀ j, j < 8 → j ≠ 1 → s0 j = r0 j) (e1 : ∀ j, j < 4 → s1 j = r1 j) (e2 : ∀ j, j < 5 → s2 j = r2 j) (e3 : ∀ j, j < 5 → s3 j = r3 j) : CRr s0 s1 s2 s3 w := by
  obtain ⟨h0, h1, h2, h3, h4, h5, h6, h7, h8, h9, h10, h11, h12, h13⟩ := h
  refine ⟨?_, fun j hj => ?_, ?_, ?_, ?_, ?_, ?_, ?_, ?_, ?_, ?_, ?_, ?_, fun j hj => ?_⟩
  · rw [e0 0 (by decide) (by decide)]; exact h0
  · rw [e1 j hj]; exact h1 j hj
  · rw [e0 2 (by decide) (by decide)]; exact h2
  · rw [e0 3 (by decide) (by decide)]; exact h3
  · rw [e0 4 (by decide) (by decide)]; exact h4
  · rw [e0 5 (by decide) (by decide)]; exact h5
  · rw [e0 6 (by decide) (by decide)]; exact h6
  · rw [e0 7 (by decide) (by decide)]; exact h7
  · rw [e2 0 (by decide)]; exact h8
  · rw [e2 1 (by decide)]; exact h9
  · rw [e2 2 (by decide)]; exact h10
  · rw [e2 3 (by decide)]; exact h11
  · rw [e2 4 (by decide)]; exact h12
  · rw [e3 j hj]; exact h13 j hj
/-- the gap that a place has, as the class and as the check read it -/
theorem gapF_gapAt {r0 r1 r2 r3 w : Nat → Int32} (h : CRr r0 r1 r2 r3 w) {la a b c d p : Nat} (hL : LI w la a b c d) (hp : p < NP la b c d) : gapF (r0 0) r1 (nI p) = gapAt w (nI p) := by
  have hl2 := LI_law2 hL
  have hP := (NP_bound (la := la) (b := b) (c := c) (d := d) (hL.2.2.2.2.2.2.2.2.1)).2
  obtain ⟨h0, h1, -⟩ := h
  unfold gapF gapAt
  rw [h0]
  by_cases hl : la = 2
  · rw [if_pos (hl2.mpr hl), if_pos (hl2.mpr hl), h1 0 (by decide), h1 1 (by decide), h1 2 (by decide)]
  · rw [if_neg (fun e => hl (hl2.mp e)), if_neg (fun e => hl (hl2.mp e)), nI_clamp (by omega)]
    have hp4 : p < 4 := by
      unfold NP at hp
      rw [if_neg hl] at hp
      by_cases hb : 0 < b <;> by_cases hc : 0 < c <;> by_cases hd : 0 < d <;> simp [hb, hc, hd] at hp <;> omega
    rw [if_pos ⟨nI_pos' (by omega), (nI_ltI (b := 4) (by omega) (by decide)).mpr hp4⟩, h1 p hp4]
/-- beginning a gap -/
theorem CRr_beg {r0 r1 r2 r3 w : Nat → Int32} (h : CRr r0 r1 r2 r3 w) (p gp : Int32) : CRr (cbegF r0 p gp) r1 r2 r3 (upd (upd (upd w 5 p) 6 gp) 7 0) := by
  obtain ⟨h0, h1, h2, h3, h4, h5, h6, h7, h8, h9, h10, h11, h12, h13⟩ := h
  refine ⟨h0, fun j hj => ?_, rfl, rfl, ?_, h5, h6, h7, h8, h9, h10, h11, h12, fun j hj => ?_⟩
  · rw [upd_ne _ _ (by omega), upd_ne _ _ (by omega), upd_ne _ _ (by omega)]; exact h1 j hj
  · show gp = gp - 0
    rw [Int32.sub_zero]
  · rw [h13 j hj]
    exact rndR_congr _ (fun _ _ => rfl) (fun i hi => by rw [upd_ne _ _ (by omega), upd_ne _ _ (by omega), upd_ne _ _ (by omega)]) j hj
theorem idiv_nI {a b : Nat} (ha : a < 2147483648) (hb0 : 0 < b) (hb : b < 2147483648) : nI a / nI b = nI (a / b) := by
  have hb1 : nI b ≠ -1 := by
    intro h
    have := congrArg Int32.toInt h
    rw [nI_toInt (by omega)] at this
    have e : (-1 : Int32).toInt = -1 := by decide
    rw [e] at this
    omega
  have hlt : a / b < 2147483648 := Nat.lt_of_le_of_lt (Nat.div_le_self a b) ha
  apply Int32.toInt_inj.mp
  rw [Int32.toInt_div_of_ne_right _ _ hb1, nI_toInt (by omega), nI_toInt (by omega), nI_toInt (by omega)]
  rw [Int.tdiv_eq_ediv_of_nonneg (by omega)]
  exact (Int.natCast_ediv a b).symm
theorem wait_half : ∀ q, q < 51 → nI q * (nI q + 1) / 2 * 1 = nI ((q * q + q) / 2) := by decide +kernel
theorem wait_even : ∀ q, q < 51 → (q * q + q) % 2 = 0 := by decide +kernel
/-- the tick's first half: age one more; and, with the gap told, the tally -/
theorem CRr_age {r0 r1 r2 r3 w : Nat → Int32} (h : CRr r0 r1 r2 r3 w) : CRr (upd r0 4 (r0 4 - 1)) r1 r2 r3 (ow w) := by
  obtain ⟨h0, h1, h2, h3, h4, h5, h6, h7, h8, h9, h10, h11, h12, h13⟩ := h
  refine ⟨h0, fun j hj => ?_, h2, h3, ?_, h5, h6, h7, h8, h9, h10, h11, h12, fun j hj => ?_⟩
  · unfold ow; rw [upd_ne _ _ (by omega)]; exact h1 j hj
  · show r0 4 - 1 = w 6 - (w 7 + 1)
    rw [h4, Int32.sub_sub]
  · rw [h13 j hj]
    exact rndR_congr _ (fun _ _ => rfl) (fun i hi => by unfold ow; rw [upd_ne _ _ (by omega)]) j hj
theorem CRr_told {r0 r1 r2 r3 w : Nat → Int32} (h : CRr r0 r1 r2 r3 w) {gp sm sq : Nat} (hg : w 6 = nI gp) (hg5 : gp ≤ 50) (h9' : w 9 = nI sm) (h10' : w 10 = nI sq) (hsm : sm ≤ 100200) (hsq : sq ≤ 50 * sm) : CRr r0 r1 (radd r2 (r0 3) 1) r3 (tw w) := by
  obtain ⟨h0, h1, h2, h3, h4, h5, h6, h7, h8, h9, h10, h11, h12, h13⟩ := h
  have m1 : ∀ x : Int32, x * 1 = x := fun x => Int32.mul_one x
  refine ⟨h0, fun j hj => ?_, h2, h3, h4, h5, h6, h7, ?_, ?_, ?_, ?_, ?_, fun j hj => ?_⟩
  · unfold tw; rw [upd_ne _ _ (by omega), upd_ne _ _ (by omega), upd_ne _ _ (by omega), upd_ne _ _ (by omega)]; exact h1 j hj
  · show r2 0 + 1 = w 8 + 1
    rw [h8]
  · show r2 1 + r0 3 * 1 = w 9 + w 6
    rw [h9, h3, m1]
  · show r2 2 + r0 3 * r0 3 * 1 = w 10 + w 6 * w 6
    rw [h10, h3, m1]
  · show r2 3 + r0 3 * (r0 3 + 1) / 2 * 1 = ((w 10 + w 6 * w 6) + (w 9 + w 6)) / 2
    have hw := wait_half gp (by omega)
    have he := wait_even gp (by omega)
    have hgg : gp * gp ≤ 50 * gp := Nat.mul_le_mul_right gp hg5
    rw [h3, h11, hg, hw, h9', h10', nI_mul, nI_add, nI_add, nI_add, nI_add, nI2, idiv_nI (by omega) (by decide) (by decide), idiv_nI (by omega) (by decide) (by decide), nI_add]
    congr 1
    omega
  · show (if r2 4 < r0 3 then r0 3 else r2 4) = (if w 6 < w 11 then w 11 else w 6)
    rw [h12, h3]
    by_cases c1 : w 11 < w 6
    · rw [if_pos c1, if_neg (fun c2 => Int32.lt_irrefl (Int32.lt_trans c1 c2))]
    · rw [if_neg c1]
      by_cases c2 : w 6 < w 11
      · rw [if_pos c2]
      · rw [if_neg c2]
        exact Int32.le_antisymm (Int32.not_lt.mp c2) (Int32.not_lt.mp c1)
  · rw [h13 j hj]
    exact rndR_congr _ (fun _ _ => rfl) (fun i hi => by unfold tw; rw [upd_ne _ _ (by omega), upd_ne _ _ (by omega), upd_ne _ _ (by omega), upd_ne _ _ (by omega)]) j hj
theorem rnd_many {r0 r1 r2 r3 w : Nat → Int32} (h : CRr r0 r1 r2 r3 w) : r3 0 = places w := by
  obtain ⟨h0, h1, h2, h3, h4, h5, h6, h7, h8, h9, h10, h11, h12, h13⟩ := h
  rw [h13 0 (by decide)]
  unfold rnd rndR places
  by_cases hl : w 0 = 2
  · rw [if_pos hl, if_pos hl]
    show (0 + w 2) + 1 = w 2 + 1
    rw [Int32.zero_add]
  · rw [if_neg hl, if_neg hl]
    have e : ∀ (r : Nat → Int32) (x : Int32), radc r x 0 = r 0 + (if 0 < x then 1 else 0) := by
      intro r x
      unfold radc
      by_cases hx : 0 < x
      · rw [if_pos hx, if_pos hx]; rfl
      · rw [if_neg hx, if_neg hx, Int32.add_zero]
    show radc (radc (radc (radc (fun _ => 0) (w 1)) (w 2)) (w 3)) (w 4) 0 = _
    rw [e, e, e, e, Int32.zero_add]
/-- a hall at the place h is as S says -/
def HR (M : Mem) (h : Nat) (S : SV) : Prop := M h 1 = S 0 ∧ M h 3 = S 1 ∧ M h 4 = S 2 ∧ M h 5 = S 3 ∧ (∀ i, i < cn S → CR M (h + 3 + 4 * i) (cw S i)) ∧ ∀ i, i < gn S → ∀ j, j < 4 → M (h + 27 + i) j = gw S i j
/-- nothing but the hall at h is touched -/
def frH (M M2 : Mem) (h : Nat) : Prop := ∀ a, (a < h ∨ h + 31 ≤ a) → M2 a = M a
theorem frH.refl (M : Mem) (h : Nat) : frH M M h := fun _ _ => rfl
theorem frH.trans {M M1 M2 : Mem} {h : Nat} (a : frH M M1 h) (b : frH M1 M2 h) : frH M M2 h := fun x hx => (b x hx).trans (a x hx)
theorem HR_congr {M : Mem} {h : Nat} {S S' : SV} (hr : HR M h S) (hc : cn S ≤ 6) (hg : gn S ≤ 4) (e : ∀ k, k < 110 → S' k = S k) : HR M h S' := by
  obtain ⟨h0, h1, h2, h3, h4, h5⟩ := hr
  have ec : cn S' = cn S := by unfold cn; rw [e 0 (by decide)]
  have eg : gn S' = gn S := by unfold gn; rw [e 1 (by decide)]
  refine ⟨by rw [e 0 (by decide)]; exact h0, by rw [e 1 (by decide)]; exact h1, by rw [e 2 (by decide)]; exact h2, by rw [e 3 (by decide)]; exact h3, ?_, ?_⟩
  · rw [ec]
    intro i hi
    exact CRr_congr (h4 i hi) (fun j hj => e _ (by omega))
  · rw [eg]
    intro i hi j hj
    rw [h5 i hi j hj]
    exact (e _ (by omega)).symm
theorem HR_row {M M2 : Mem} {h : Nat} {S : SV} (hr : HR M h S) (hc : cn S ≤ 6) (hg : gn S ≤ 4) (e : ∀ a, h ≤ a → a < h + 31 → M2 a = M a) : HR M2 h S := by
  obtain ⟨h0, h1, h2, h3, h4, h5⟩ := hr
  refine ⟨by rw [e h (by omega) (by omega)]; exact h0, by rw [e h (by omega) (by omega)]; exact h1, by rw [e h (by omega) (by omega)]; exact h2, by rw [e h (by omega) (by omega)]; exact h3, fun i hi => ?_, fun i hi j hj => ?_⟩
  · show CRr _ _ _ _ _
    rw [e _ (by omega) (by omega), e _ (by omega) (by omega), e _ (by omega) (by omega), e _ (by omega) (by omega)]
    exact h4 i hi
  · rw [e _ (by omega) (by omega)]
    exact h5 i hi j hj
/-- one clock's rows are changed, and x -/
theorem HR_clock {M M2 : Mem} {h : Nat} {S : SV} {i : Nat} {w : Nat → Int32} {x : Int32} (hr : HR M h S) (hc : cn S ≤ 6) (hg : gn S ≤ 4) (hi : i < 6) (e0 : M2 h = upd (M h) 5 x) (e : ∀ a, h ≤ a → a < h + 31 → a ≠ h → (a < h + 3 + 4 * i ∨ h + 7 + 4 * i ≤ a) → M2 a = M a) (hw : CR M2 (h + 3 + 4 * i) w) : HR M2 h (upd (setC S i w) 3 x) := by
  obtain ⟨h0, h1, h2, h3, h4, h5⟩ := hr
  have lo : ∀ k, k < 3 → upd (setC S i w) 3 x k = S k := fun k hk => by rw [upd_ne _ _ (by omega), setC_lo _ _ _ (by omega)]
  have ec : cn (upd (setC S i w) 3 x) = cn S := by unfold cn; rw [lo 0 (by decide)]
  have eg : gn (upd (setC S i w) 3 x) = gn S := by unfold gn; rw [lo 1 (by decide)]
  refine ⟨?_, ?_, ?_, ?_, ?_, ?_⟩
  · rw [e0, lo 0 (by decide)]; exact h0
  · rw [e0, lo 1 (by decide)]; exact h1
  · rw [e0, lo 2 (by decide)]; exact h2
  · rw [e0, upd_self, upd_self]
  · rw [ec]
    intro k hk
    rw [cw_upd_lo _ _ _ (by decide)]
    by_cases hki : k = i
    · subst hki
      exact CRr_congr hw (fun j hj => cw_setC _ _ _ hj)
    · show CRr _ _ _ _ _
      rw [e _ (by omega) (by omega) (by omega) (by omega), e _ (by omega) (by omega) (by omega) (by omega), e _ (by omega) (by omega) (by omega) (by omega), e _ (by omega) (by omega) (by omega) (by omega)]
      exact CRr_congr (h4 k hk) (fun j hj => cw_setC_ne _ _ hj hki)
  · rw [eg]
    intro k hk j hj
    rw [gw_upd_lo _ _ _ (by decide), gw_setC _ _ hi, e _ (by omega) (by omega) (by omega) (by omega)]
    exact h5 k hk j hj
