/-! WHAT THE CALLS DO, on a state: the answer, and the state behind -/
abbrev inC (S : SV) (x : Int32) : Prop := 0 ≤ x ∧ x < S 0
abbrev inG (S : SV) (x : Int32) : Prop := 0 ≤ x ∧ x < S 1
abbrev ixN (x : Int32) : Nat := x.toNatClampNeg
theorem inC_of {S : SV} {t : Nat} (hi : Inv S t) {i : Nat} (h : i < cn S) : inC S (nI i) := ⟨nI_pos' (by have := hi.cn_le.1; omega), by rw [hi.cn_le.2]; exact nI_lt h (by have := hi.cn_le.1; omega)⟩
theorem inG_of {S : SV} {t : Nat} (hi : Inv S t) {i : Nat} (h : i < gn S) : inG S (nI i) := ⟨nI_pos' (by have := hi.gn_le.1; omega), by rw [hi.gn_le.2]; exact nI_lt h (by have := hi.gn_le.1; omega)⟩
theorem inC_ex {S : SV} {t : Nat} (hi : Inv S t) {x : Int32} (h : inC S x) : ∃ i, i < cn S ∧ x = nI i := by
  have h2 := h.2
  rw [hi.cn_le.2] at h2
  exact nI_of_range (Int32.not_lt.mpr h.1) h2 (by have := hi.cn_le.1; omega)
theorem inG_ex {S : SV} {t : Nat} (hi : Inv S t) {x : Int32} (h : inG S x) : ∃ i, i < gn S ∧ x = nI i := by
  have h2 := h.2
  rw [hi.gn_le.2] at h2
  exact nI_of_range (Int32.not_lt.mpr h.1) h2 (by have := hi.gn_le.1; omega)
theorem inC_not {S : SV} {t : Nat} (hi : Inv S t) {x : Int32} (h : ∀ i, i < cn S → x ≠ nI i) : ¬ inC S x := fun e => by
  obtain ⟨i, h1, h2⟩ := inC_ex hi e
  exact h i h1 h2
theorem inG_not {S : SV} {t : Nat} (hi : Inv S t) {x : Int32} (h : ∀ i, i < gn S → x ≠ nI i) : ¬ inG S x := fun e => by
  obtain ⟨i, h1, h2⟩ := inG_ex hi e
  exact h i h1 h2
theorem ixN_nI {i : Nat} (h : i < 2147483648) : ixN (nI i) = i := nI_clamp h
/-! truth as 1 and 0 -/
noncomputable def cb (P : Prop) : Int32 := @ite _ P (Classical.propDecidable P) 1 0
theorem cb_t {P : Prop} (h : P) : cb P = 1 := by unfold cb; rw [if_pos h]
theorem cb_f {P : Prop} (h : ¬ P) : cb P = 0 := by unfold cb; rw [if_neg h]
theorem cb_0 {P : Prop} (h : cb P = 0) : ¬ P := fun e => by rw [cb_t e] at h; exact absurd h (by decide)
theorem cb_1 {P : Prop} (h : ¬ cb P = 0) : P := Classical.byContradiction fun e => h (cb_f e)
/-! laws and their numbers -/
def lawP (x : Int32) : Prop := 0 ≤ x ∧ x ≤ 2
def gapP (x : Int32) : Prop := 1 ≤ x ∧ x ≤ 50
def mfP (x y : Int32) : Prop := y = 0 ∨ (x ≠ 0 ∧ gapP y)
def clockP (la a b c d : Int32) : Prop := lawP la ∧ gapP a ∧ (la = 2 → gapP b ∧ gapP c ∧ d = 0) ∧ (la ≠ 2 → mfP a b ∧ mfP b c ∧ mfP c d)
/-- a fresh clock's numbers, at the place p -/
def w0 (la a b c d p : Int32) : Nat → Int32 := fun j => if j = 0 then la else if j = 1 then a else if j = 2 then b else if j = 3 then c else if j = 4 then d else if j = 5 then p else 0
theorem lawP_nI {x : Int32} (h : lawP x) : ∃ n, n ≤ 2 ∧ x = nI n := nI_of2 (M := 2) (n := 2) rfl (Int32.not_lt.mpr h.1) h.2
theorem gapP_nI {x : Int32} (h : gapP x) : ∃ n, 1 ≤ n ∧ n ≤ 50 ∧ x = nI n := by
  have h0 : ¬ x < 0 := fun e => by
    have a1 := Int32.lt_iff_toInt_lt.mp e
    have a2 := Int32.le_iff_toInt_le.mp h.1
    have e0 : (0 : Int32).toInt = 0 := rfl
    have e1 : (1 : Int32).toInt = 1 := rfl
    omega
  obtain ⟨n, hn, rfl⟩ := nI_of2 (M := 50) (n := 50) rfl h0 h.2
  refine ⟨n, ?_, hn, rfl⟩
  have := h.1
  rw [nI1, nI_leI (by decide) (by omega)] at this
  exact this
theorem mfP_nI {x y : Int32} (h : mfP x y) : ∃ n, n ≤ 50 ∧ y = nI n ∧ (x = 0 → n = 0) := by
  rcases h with rfl | ⟨h1, h2⟩
  · exact ⟨0, by decide, nI0, fun _ => rfl⟩
  · obtain ⟨n, a1, a2, rfl⟩ := gapP_nI h2
    exact ⟨n, a2, rfl, fun e => absurd e h1⟩
theorem clockP_LI {la a b c d p : Int32} (h : clockP la a b c d) : ∃ l' a' b' c' d', LI (w0 la a b c d p) l' a' b' c' d' := by
  obtain ⟨h1, h2, h3, h4⟩ := h
  obtain ⟨l', l1, rfl⟩ := lawP_nI h1
  obtain ⟨a', a1, a2, rfl⟩ := gapP_nI h2
  by_cases hl : nI l' = 2
  · have hl' : l' = 2 := by rw [nI2, nI_inj (by omega) (by decide)] at hl; exact hl
    obtain ⟨g1, g2, rfl⟩ := h3 hl
    obtain ⟨b', b1, b2, rfl⟩ := gapP_nI g1
    obtain ⟨c', c1, c2, rfl⟩ := gapP_nI g2
    exact ⟨l', a', b', c', 0, rfl, rfl, rfl, rfl, nI0, l1, a1, a2, b2, c2, by decide, fun _ => ⟨b1, c1, rfl⟩, fun e => absurd hl' e⟩
  · have hl' : ¬ l' = 2 := fun e => hl (by rw [e]; exact nI2.symm)
    obtain ⟨g1, g2, g3⟩ := h4 hl
    obtain ⟨b', b1, rfl, b2⟩ := mfP_nI g1
    obtain ⟨c', c1, rfl, c2⟩ := mfP_nI g2
    obtain ⟨d', d1, rfl, d2⟩ := mfP_nI g3
    exact ⟨l', a', b', c', d', rfl, rfl, rfl, rfl, rfl, l1, a1, a2, b1, c1, d1, fun e => absurd e hl', fun _ => ⟨fun e => c2 (by rw [e]; exact nI0.symm), fun e => d2 (by rw [e]; exact nI0.symm)⟩⟩
/-! the calls -/
def addC (S : SV) (la a b c d : Int32) : SV := beg (upd (setC S (cn S) (w0 la a b c d 0)) 0 (S 0 + 1)) (cn S) 0
noncomputable def oClock (S : SV) (la a b c d : Int32) : Int32 × SV := @ite _ (clockP la a b c d) (Classical.propDecidable _) (if S 0 = 6 then (-1000003, S) else (S 0, addC S la a b c d)) (-1000001, S)
def wnd (S : SV) (i : Nat) : SV := setC (beg S i (cw S i 5 + 1)) i (upd (cw (beg S i (cw S i 5 + 1)) i) 14 (cw (beg S i (cw S i 5 + 1)) i 14 + 1))
def oWind (S : SV) (x : Int32) : Int32 × SV := if inC S x then (cw (wnd S (ixN x)) (ixN x) 6, wnd S (ixN x)) else (-1000001, S)
/-- so many ticks: the gaps told, and the state -/
def endsN (S : SV) : Nat → Int32 × SV
  | 0 => (0, S)
  | k + 1 => ((endsN S k).1 + jbc (endsZ (endsN S k).2), ends (endsN S k).2)
abbrev ticksP (k : Int32) : Prop := 1 ≤ k ∧ k ≤ 200
def oTick (S : SV) (k : Int32) : Int32 × SV := if ticksP k then (if S 2 + k ≤ 99999 then endsN S (ixN k) else (-1000003, S)) else (-1000001, S)
def pasC (S : SV) (i : Nat) : SV := setC S i (upd (upd (cw S i) 12 (cw S i 12 + 1)) 13 (cw S i 13 + (cw S i 6 - cw S i 7)))
def oPass (S : SV) (x : Int32) : Int32 × SV := if inC S x then (cw S (ixN x) 6 - cw S (ixN x) 7, pasC S (ixN x)) else (-1000001, S)
def g0 (la : Int32) : Nat → Int32 := fun j => if j = 0 then la else 0
noncomputable def oGroup (S : SV) (la : Int32) : Int32 × SV := @ite _ (lawP la) (Classical.propDecidable _) (if S 1 = 4 then (-1000003, S) else (S 1, upd (setGr S (gn S) (g0 la)) 1 (S 1 + 1))) (-1000001, S)
/-- is clock i in the set z -/
abbrev isIn (z : Int32) (i : Nat) : Prop := ¬ z &&& (1 <<< (nI i &&& 31)) = 0
def mem1 (S : SV) (gi : Nat) (z : Int32) : SV := setGr S gi (upd (gw S gi) 1 z)
def oJoin (S : SV) (gx x : Int32) : Int32 × SV := if inG S gx ∧ inC S x then (if cw S (ixN x) 0 ≠ gw S (ixN gx) 0 ∨ isIn (gw S (ixN gx) 1) (ixN x) then (-1000002, S) else if jbc (gw S (ixN gx) 1) < 4 then (jbc (gw S (ixN gx) 1 ||| (1 <<< (nI (ixN x) &&& 31))), mem1 S (ixN gx) (gw S (ixN gx) 1 ||| (1 <<< (nI (ixN x) &&& 31)))) else (-1000003, S)) else (-1000001, S)
def oLeave (S : SV) (gx x : Int32) : Int32 × SV := if inG S gx ∧ inC S x then (if isIn (gw S (ixN gx) 1) (ixN x) then (jbc (gw S (ixN gx) 1 &&& ((1 <<< (nI (ixN x) &&& 31)) ^^^ -1)), mem1 S (ixN gx) (gw S (ixN gx) 1 &&& ((1 <<< (nI (ixN x) &&& 31)) ^^^ -1))) else (-1000002, S)) else (-1000001, S)
/-! what a clock's rows say, of the changes of one clock -/
theorem CRr_wound {r0 r1 r2 r3 w : Nat → Int32} (h : CRr r0 r1 r2 r3 w) : CRr (upd r0 7 (r0 7 + 1)) r1 r2 r3 (upd w 14 (w 14 + 1)) := by
  obtain ⟨h0, h1, h2, h3, h4, h5, h6, h7, h8, h9, h10, h11, h12, h13⟩ := h
  refine ⟨h0, fun j hj => ?_, h2, h3, h4, h5, h6, ?_, h8, h9, h10, h11, h12, fun j hj => ?_⟩
  · rw [upd_ne _ _ (by omega)]; exact h1 j hj
  · rw [upd_self, upd_self, h7]
  · rw [h13 j hj]
    exact rndR_congr _ (fun _ _ => rfl) (fun i hi => by rw [upd_ne _ _ (by omega)]) j hj
theorem CRr_pass {r0 r1 r2 r3 w : Nat → Int32} (h : CRr r0 r1 r2 r3 w) : CRr (upd (upd r0 5 (r0 5 + 1)) 6 (r0 6 + r0 4)) r1 r2 r3 (upd (upd w 12 (w 12 + 1)) 13 (w 13 + (w 6 - w 7))) := by
  obtain ⟨h0, h1, h2, h3, h4, h5, h6, h7, h8, h9, h10, h11, h12, h13⟩ := h
  refine ⟨h0, fun j hj => ?_, h2, h3, h4, ?_, ?_, h7, h8, h9, h10, h11, h12, fun j hj => ?_⟩
  · rw [upd_ne _ _ (by omega), upd_ne _ _ (by omega)]; exact h1 j hj
  · show r0 5 + 1 = w 12 + 1
    rw [h5]
  · show r0 6 + r0 4 = w 13 + (w 6 - w 7)
    rw [h6, h4]
  · rw [h13 j hj]
    exact rndR_congr _ (fun _ _ => rfl) (fun i hi => by rw [upd_ne _ _ (by omega), upd_ne _ _ (by omega)]) j hj
theorem CR_set (M : Mem) (k : Nat) (la a b c d : Int32) : CR (csetM M k la a b c d) k (w0 la a b c d (-1)) := by
  unfold csetM CR
  rw [updr_ne _ _ (show k ≠ k + 3 by omega), updr_ne _ _ (show k ≠ k + 2 by omega), updr_self, updr_ne _ _ (show k + 1 ≠ k + 3 by omega), updr_ne _ _ (show k + 1 ≠ k + 2 by omega), updr_ne _ _ (show k + 1 ≠ k by omega), updr_self, updr_ne _ _ (show k + 2 ≠ k + 3 by omega), updr_self, updr_self]
  refine ⟨rfl, fun j hj => ?_, rfl, rfl, ?_, rfl, rfl, rfl, rfl, rfl, rfl, ?_, rfl, fun j hj => ?_⟩
  · match j, hj with
    | 0, _ | 1, _ | 2, _ | 3, _ => rfl
  · show (0 : Int32) = 0 - 0
    decide
  · show (0 : Int32) = (0 + 0) / 2
    decide
  · refine rndR_congr _ (fun i hi => by unfold rzero; rw [if_pos hi]) (fun i hi => ?_) j hj
    match i, hi with
    | 0, _ | 1, _ | 2, _ | 3, _ => rfl
/-- one clock's rows are changed, and nothing else -/
theorem HR_clk {M M2 : Mem} {h : Nat} {S : SV} {i : Nat} {w : Nat → Int32} (hr : HR M h S) (hc : cn S ≤ 6) (hg : gn S ≤ 4) (hi : i < 6) (e : ∀ a, h ≤ a → a < h + 31 → (a < h + 3 + 4 * i ∨ h + 7 + 4 * i ≤ a) → M2 a = M a) (hw : CR M2 (h + 3 + 4 * i) w) : HR M2 h (setC S i w) := by
  refine HR_congr (HR_clock (x := S 3) hr hc hg hi ?_ (fun a a1 a2 a3 a4 => e a a1 a2 a4) hw) ?_ ?_ (fun k hk => ?_)
  · rw [e h (by omega) (by omega) (by omega)]
    funext j
    unfold upd
    split
    · next q => rw [q]; exact hr.2.2.2.1
    · rfl
  · show (upd (setC S i w) 3 (S 3) 0).toNatClampNeg ≤ 6
    rw [upd_ne _ _ (by decide), setC_lo _ _ _ (by decide)]
    exact hc
  · show (upd (setC S i w) 3 (S 3) 1).toNatClampNeg ≤ 4
    rw [upd_ne _ _ (by decide), setC_lo _ _ _ (by decide)]
    exact hg
  · by_cases h3 : k = 3
    · subst h3; rw [upd_self, setC_lo _ _ _ (by decide)]
    · rw [upd_ne _ _ h3]
theorem cn_beg (S : SV) (i : Nat) (q : Int32) : cn (beg S i q) = cn S := by
  unfold cn beg
  rw [upd_ne _ _ (by decide), setC_lo _ _ _ (by decide)]
theorem gn_beg (S : SV) (i : Nat) (q : Int32) : gn (beg S i q) = gn S := by
  unfold gn beg
  rw [upd_ne _ _ (by decide), setC_lo _ _ _ (by decide)]
