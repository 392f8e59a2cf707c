/-! WHAT A STATE IS: a hall as the check has it, 110 numbers: counts, tick, x, clocks by fifteen from 4 on, groups by four from 94 on. -/
theorem nI_mul (a b : Nat) : nI a * nI b = nI (a * b) := (Int32.ofNat_mul a b).symm
theorem nI_sub {a b : Nat} (h : b ≤ a) : nI a - nI b = nI (a - b) := by
  have h1 : nI a = nI (a - b) + nI b := by rw [nI_add, Nat.sub_add_cancel h]
  rw [Int32.sub_eq_iff_eq_add]
  exact h1
theorem upd_self (f : Nat → Int32) (k : Nat) (x : Int32) : upd f k x k = x := by simp [upd]
theorem upd_ne (f : Nat → Int32) {k j : Nat} (x : Int32) (h : j ≠ k) : upd f k x j = f j := by simp [upd, h]
theorem upd_get (f : Nat → Int32) (k j : Nat) (x : Int32) : upd f k x j = if j = k then x else f j := rfl
abbrev SV : Type := Nat → Int32
/-- a clock's fifteen: 0 law, 1..4 a, b, c, d, 5 place, 6 gap, 7 age, 8 told, 9 sum, 10 squares, 11 longest, 12 passengers, 13 waited, 14 wound -/
def cw (S : SV) (i : Nat) : Nat → Int32 := fun j => S (4 + 15 * i + j)
def gw (S : SV) (i : Nat) : Nat → Int32 := fun j => S (94 + 4 * i + j)
def setC (S : SV) (i : Nat) (w : Nat → Int32) : SV := fun k => if 4 + 15 * i ≤ k ∧ k < 19 + 15 * i then w (k - (4 + 15 * i)) else S k
def setGr (S : SV) (i : Nat) (w : Nat → Int32) : SV := fun k => if 94 + 4 * i ≤ k ∧ k < 98 + 4 * i then w (k - (94 + 4 * i)) else S k
def cn (S : SV) : Nat := (S 0).toNatClampNeg
def gn (S : SV) : Nat := (S 1).toNatClampNeg
theorem cw_setC (S : SV) (i : Nat) (w : Nat → Int32) {j : Nat} (hj : j < 15) : cw (setC S i w) i j = w j := by
  unfold cw setC
  rw [if_pos (by omega)]
  congr 1
  omega
theorem cw_setC_ne (S : SV) {i i' : Nat} (w : Nat → Int32) {j : Nat} (hj : j < 15) (h : i' ≠ i) : cw (setC S i w) i' j = cw S i' j := by
  unfold cw setC
  rw [if_neg (by omega)]
theorem gw_setC (S : SV) {i : Nat} (w : Nat → Int32) (hi : i < 6) (k j : Nat) : gw (setC S i w) k j = gw S k j := by
  unfold gw setC
  rw [if_neg (by omega)]
theorem setC_lo (S : SV) (i : Nat) (w : Nat → Int32) {k : Nat} (hk : k < 4) : setC S i w k = S k := by
  unfold setC
  rw [if_neg (by omega)]
theorem cw_upd_lo (S : SV) (i : Nat) {k : Nat} (v : Int32) (hk : k < 4) : cw (upd S k v) i = cw S i := by
  funext j
  unfold cw
  rw [upd_ne _ _ (by omega)]
theorem gw_upd_lo (S : SV) (i : Nat) {k : Nat} (v : Int32) (hk : k < 4) : gw (upd S k v) i = gw S i := by
  funext j
  unfold gw
  rw [upd_ne _ _ (by omega)]
theorem gw_setGr (S : SV) (i : Nat) (w : Nat → Int32) {j : Nat} (hj : j < 4) : gw (setGr S i w) i j = w j := by
  unfold gw setGr
  rw [if_pos (by omega)]
  congr 1
  omega
theorem gw_setGr_ne (S : SV) {i i' : Nat} (w : Nat → Int32) {j : Nat} (hj : j < 4) (h : i' ≠ i) : gw (setGr S i w) i' j = gw S i' j := by
  unfold gw setGr
  rw [if_neg (by omega)]
theorem cw_setGr (S : SV) (i : Nat) (w : Nat → Int32) {k : Nat} (hk : k < 6) {j : Nat} (hj : j < 15) : cw (setGr S i w) k j = cw S k j := by
  unfold cw setGr
  rw [if_neg (by omega)]
theorem setGr_lo (S : SV) (i : Nat) (w : Nat → Int32) {k : Nat} (hk : k < 4) : setGr S i w k = S k := by
  unfold setGr
  rw [if_neg (by omega)]
/-! a clock's gaps -/
def places (w : Nat → Int32) : Int32 := if w 0 = 2 then w 2 + 1 else (if 0 < w 1 then 1 else 0) + (if 0 < w 2 then 1 else 0) + (if 0 < w 3 then 1 else 0) + (if 0 < w 4 then 1 else 0)
def gapAt (w : Nat → Int32) (p : Int32) : Int32 := if w 0 = 2 then (if p < w 2 then w 1 else w 3) else w (1 + p.toNatClampNeg)
def xnext (x : Int32) : Int32 := jrem (x * 421 + 1663) 10000
def bx (w : Nat → Int32) (x : Int32) : Int32 := if w 0 = 1 then xnext x else x
def bplace (w : Nat → Int32) (x next : Int32) : Int32 := if w 0 = 1 then jrem (xnext x) (places w) else jrem next (places w)
def bw (w : Nat → Int32) (x next : Int32) : Nat → Int32 := upd (upd (upd w 5 (bplace w x next)) 6 (gapAt w (bplace w x next))) 7 0
/-- clock i begins its next gap -/
def beg (S : SV) (i : Nat) (next : Int32) : SV := upd (setC S i (bw (cw S i) (S 3) next)) 3 (bx (cw S i) (S 3))
/-- clock w has told its gap -/
def tw (w : Nat → Int32) : Nat → Int32 := upd (upd (upd (upd w 8 (w 8 + 1)) 9 (w 9 + w 6)) 10 (w 10 + w 6 * w 6)) 11 (if w 6 < w 11 then w 11 else w 6)
def ow (w : Nat → Int32) : Nat → Int32 := upd w 7 (w 7 + 1)
/-- does clock i tell a gap with the tick that ends now -/
abbrev tC (S : SV) (i : Nat) : Prop := cw S i 6 - (cw S i 7 + 1) = 0
def sC (S : SV) (i : Nat) : SV := if tC S i then beg (setC S i (tw (ow (cw S i)))) i (cw S i 5 + 1) else setC S i (ow (cw S i))
def eC (S : SV) : Nat → SV × Int32
  | 0 => (S, 0)
  | i + 1 => (sC (eC S i).1 i, if tC (eC S i).1 i then (eC S i).2 ||| (1 <<< (nI i &&& 31)) else (eC S i).2)
def eG (S : SV) (z : Int32) : Nat → SV
  | 0 => S
  | i + 1 => setGr (eG S z i) i (gtick (gw (eG S z i) i) z)
/-- a tick ends -/
def ends (S : SV) : SV := upd (eG (eC S (cn S)).1 (eC S (cn S)).2 (gn S)) 2 (S 2 + 1)
/-- the clocks that tell a gap with it, as a set -/
def endsZ (S : SV) : Int32 := (eC S (cn S)).2
/-! what holds of every state -/
def NP (la b c d : Nat) : Nat := if la = 2 then b + 1 else 1 + (if 0 < b then 1 else 0) + (if 0 < c then 1 else 0) + (if 0 < d then 1 else 0)
/-- a law and its numbers -/
def LI (w : Nat → Int32) (la a b c d : Nat) : Prop := w 0 = nI la ∧ w 1 = nI a ∧ w 2 = nI b ∧ w 3 = nI c ∧ w 4 = nI d ∧ la ≤ 2 ∧ 1 ≤ a ∧ a ≤ 50 ∧ b ≤ 50 ∧ c ≤ 50 ∧ d ≤ 50 ∧ (la = 2 → 1 ≤ b ∧ 1 ≤ c ∧ d = 0) ∧ (la ≠ 2 → (b = 0 → c = 0) ∧ (c = 0 → d = 0))
/-- of the gaps told: their squares, their number -/
def TP (w : Nat → Int32) (sm sq : Nat) : Prop := sq ≤ 50 * sm ∧ ∃ k, w 8 = nI k ∧ k ≤ sm ∧ sm ≤ sq
theorem TP_congr {w w' : Nat → Int32} {sm sq : Nat} (h : TP w sm sq) (e : w' 8 = w 8) : TP w' sm sq := ⟨h.1, by rw [e]; exact h.2⟩
/-- a clock at the tick t -/
def CI (w : Nat → Int32) (t : Nat) : Prop := ∃ (la a b c d p gp ag sm sq : Nat), LI w la a b c d ∧ w 5 = nI p ∧ p < NP la b c d ∧ w 6 = nI gp ∧ 1 ≤ gp ∧ gp ≤ 50 ∧ w 7 = nI ag ∧ ag < gp ∧ w 9 = nI sm ∧ sm + ag ≤ t ∧ w 10 = nI sq ∧ TP w sm sq
def pop6 (z : Nat) : Nat := z % 2 + z / 2 % 2 + z / 4 % 2 + z / 8 % 2 + z / 16 % 2 + z / 32 % 2
def GI (r : Nat → Int32) (t : Nat) : Prop := ∃ (la z mt : Nat), r 0 = nI la ∧ la ≤ 2 ∧ r 1 = nI z ∧ z < 64 ∧ pop6 z ≤ 4 ∧ r 3 = nI mt ∧ mt ≤ t
def Inv (S : SV) (t : Nat) : Prop := (∃ n, n ≤ 6 ∧ S 0 = nI n) ∧ (∃ m, m ≤ 4 ∧ S 1 = nI m) ∧ S 2 = nI t ∧ t ≤ 100200 ∧ (∃ x, x < 10000 ∧ S 3 = nI x) ∧ (∀ i, i < cn S → CI (cw S i) t) ∧ ∀ i, i < gn S → GI (gw S i) t
theorem cn_of {S : SV} {n : Nat} (h : S 0 = nI n) (hn : n ≤ 6) : cn S = n := by unfold cn; rw [h, nI_clamp (by omega)]
theorem gn_of {S : SV} {n : Nat} (h : S 1 = nI n) (hn : n ≤ 4) : gn S = n := by unfold gn; rw [h, nI_clamp (by omega)]
theorem Inv.cn_le {S : SV} {t : Nat} (h : Inv S t) : cn S ≤ 6 ∧ S 0 = nI (cn S) := by
  obtain ⟨⟨n, hn, h0⟩, -⟩ := h
  rw [cn_of h0 hn]
  exact ⟨hn, h0⟩
theorem Inv.gn_le {S : SV} {t : Nat} (h : Inv S t) : gn S ≤ 4 ∧ S 1 = nI (gn S) := by
  obtain ⟨-, ⟨n, hn, h0⟩, -⟩ := h
  rw [gn_of h0 hn]
  exact ⟨hn, h0⟩
theorem nI0 : (0 : Int32) = nI 0 := by decide
theorem nI1 : (1 : Int32) = nI 1 := by decide
theorem nI2 : (2 : Int32) = nI 2 := by decide
theorem nI_inj {a b : Nat} (ha : a < 2147483648) (hb : b < 2147483648) : nI a = nI b ↔ a = b := nI_eq ha hb
theorem nI_lt0 {b : Nat} (hb : b < 2147483648) : (0 : Int32) < nI b ↔ 0 < b := by rw [nI0]; exact nI_ltI (by decide) hb
theorem NP_bound {la b c d : Nat} (hb : b ≤ 50) : 1 ≤ NP la b c d ∧ NP la b c d ≤ 51 := by
  unfold NP
  by_cases h : la = 2 <;> by_cases h1 : 0 < b <;> by_cases h2 : 0 < c <;> by_cases h3 : 0 < d <;> simp [h, h1, h2, h3] <;> omega
theorem LI_places {w : Nat → Int32} {la a b c d : Nat} (h : LI w la a b c d) : places w = nI (NP la b c d) := by
  obtain ⟨h0, h1, h2, h3, h4, b0, b1, b2, b3, b4, b5, -⟩ := h
  unfold places NP
  rw [h0, h1, h2, h3, h4, nI2]
  have ite1 : ∀ (q : Nat), (if 0 < q then (1 : Int32) else 0) = nI (if 0 < q then 1 else 0) := by
    intro q
    by_cases hq : 0 < q <;> simp [hq] <;> decide
  by_cases hl : la = 2
  · rw [if_pos hl, if_pos (by rw [hl]), nI_1]
  · rw [if_neg hl, if_neg (by rw [nI_inj (by omega) (by omega)]; exact hl)]
    simp only [nI_lt0 (show a < 2147483648 by omega), nI_lt0 (show b < 2147483648 by omega), nI_lt0 (show c < 2147483648 by omega), nI_lt0 (show d < 2147483648 by omega), ite1, nI_add]
    rw [if_pos (by omega : 0 < a)]
theorem LI_law2 {w : Nat → Int32} {la a b c d : Nat} (h : LI w la a b c d) : w 0 = 2 ↔ la = 2 := by
  obtain ⟨h0, h1, h2, h3, h4, b0, -⟩ := h
  rw [h0, nI2, nI_inj (by omega) (by omega)]
theorem LI_law1 {w : Nat → Int32} {la a b c d : Nat} (h : LI w la a b c d) : w 0 = 1 ↔ la = 1 := by
  obtain ⟨h0, h1, h2, h3, h4, b0, -⟩ := h
  rw [h0, nI1, nI_inj (by omega) (by omega)]
/-- the remainder of numbers that are not negative -/
theorem jrem_nI {a b : Nat} (ha : a < 2147483648) (hb0 : 0 < b) (hb : b < 2147483648) : jrem (nI a) (nI b) = nI (a % b) := by
  have hd : nI a / nI b = nI (a / b) := by
    have hb1 : nI b ≠ -1 := by
      intro h
      have := congrArg Int32.toInt h
      rw [nI_toInt (by omega)] at this
      have e : (-1 : Int32).toInt = -1 := by decide
      rw [e] at this
      omega
    have hlt : a / b < 2147483648 := Nat.lt_of_le_of_lt (Nat.div_le_self a b) ha
    apply Int32.toInt_inj.mp
    rw [Int32.toInt_div_of_ne_right _ _ hb1, nI_toInt (by omega), nI_toInt (by omega), nI_toInt (by omega)]
    rw [Int.tdiv_eq_ediv_of_nonneg (by omega)]
    exact (Int.natCast_ediv a b).symm
  unfold jrem
  rw [hd, nI_mul, nI_sub (by rw [Nat.mul_comm]; exact Nat.mul_div_le a b)]
  congr 1
  have := Nat.div_add_mod a b
  rw [Nat.mul_comm] at this
  omega
theorem xnext_nI {x : Nat} (hx : x < 10000) : xnext (nI x) = nI ((x * 421 + 1663) % 10000) := by
  unfold xnext
  rw [show (421 : Int32) = nI 421 by decide, show (1663 : Int32) = nI 1663 by decide, show (10000 : Int32) = nI 10000 by decide, nI_mul, nI_add]
  exact jrem_nI (by omega) (by omega) (by omega)
/-- a place of the round has a gap -/
theorem LI_gapAt {w : Nat → Int32} {la a b c d : Nat} (h : LI w la a b c d) {p : Nat} (hp : p < NP la b c d) : ∃ gp, gapAt w (nI p) = nI gp ∧ 1 ≤ gp ∧ gp ≤ 50 := by
  have hl2 := LI_law2 h
  have hP := (NP_bound (la := la) (b := b) (c := c) (d := d) (h.2.2.2.2.2.2.2.2.1)).2
  obtain ⟨h0, h1, h2, h3, h4, b0, b1, b2, b3, b4, b5, q1, q2⟩ := h
  unfold gapAt
  by_cases hl : la = 2
  · rw [if_pos (hl2.mpr hl)]
    obtain ⟨c1, c2, c3⟩ := q1 hl
    by_cases hlt : nI p < w 2
    · rw [if_pos hlt]; exact ⟨a, h1, b1, b2⟩
    · rw [if_neg hlt]; exact ⟨c, h3, c2, b4⟩
  · rw [if_neg (fun e => hl (hl2.mp e)), nI_clamp (by omega)]
    obtain ⟨c1, c2⟩ := q2 hl
    unfold NP at hp
    rw [if_neg hl] at hp
    have e : p = 0 ∨ p = 1 ∨ p = 2 ∨ p = 3 := by
      by_cases hb : 0 < b <;> by_cases hc : 0 < c <;> by_cases hd : 0 < d <;> simp [hb, hc, hd] at hp <;> omega
    rcases e with rfl | rfl | rfl | rfl
    · exact ⟨a, h1, b1, b2⟩
    · refine ⟨b, h2, ?_, b3⟩
      by_cases hb : 0 < b
      · exact hb
      · exfalso
        have hb0 : b = 0 := by omega
        have hc0 := c1 hb0
        have hd0 := c2 hc0
        simp [hb0, hc0, hd0] at hp
    · refine ⟨c, h3, ?_, b4⟩
      by_cases hc : 0 < c
      · exact hc
      · exfalso
        have hc0 : c = 0 := by omega
        have hd0 := c2 hc0
        by_cases hb : 0 < b <;> simp [hb, hc0, hd0] at hp
    · refine ⟨d, h4, ?_, b5⟩
      by_cases hd : 0 < d
      · exact hd
      · exfalso
        have hd0 : d = 0 := by omega
        by_cases hb : 0 < b <;> by_cases hc : 0 < c <;> simp [hb, hc, hd0] at hp
theorem LI_congr {w w' : Nat → Int32} {la a b c d : Nat} (h : LI w la a b c d) (e : ∀ j, j < 5 → w' j = w j) : LI w' la a b c d := by
  unfold LI at *
  rw [e 0 (by decide), e 1 (by decide), e 2 (by decide), e 3 (by decide), e 4 (by decide)]
  exact h
theorem bx_nI {w : Nat → Int32} {x : Nat} (hx : x < 10000) : ∃ x', x' < 10000 ∧ bx w (nI x) = nI x' := by
  unfold bx
  by_cases h : w 0 = 1
  · rw [if_pos h, xnext_nI hx]; exact ⟨_, Nat.mod_lt _ (by decide), rfl⟩
  · rw [if_neg h]; exact ⟨x, hx, rfl⟩
/-- where the next gap stands -/
theorem bplace_nI {w : Nat → Int32} {la a b c d x q : Nat} (h : LI w la a b c d) (hx : x < 10000) (hq : q < 2147483648) : ∃ p, p < NP la b c d ∧ bplace w (nI x) (nI q) = nI p := by
  have hP := NP_bound (la := la) (b := b) (c := c) (d := d) (h.2.2.2.2.2.2.2.2.1)
  unfold bplace
  rw [LI_places h]
  by_cases h1 : w 0 = 1
  · rw [if_pos h1, xnext_nI hx, jrem_nI (by have := Nat.mod_lt (x * 421 + 1663) (show 0 < 10000 by decide); omega) (by omega) (by omega)]
    exact ⟨_, Nat.mod_lt _ (by omega), rfl⟩
  · rw [if_neg h1, jrem_nI hq (by omega) (by omega)]
    exact ⟨_, Nat.mod_lt _ (by omega), rfl⟩
theorem bw_lo (w : Nat → Int32) (x next : Int32) {j : Nat} (h5 : j ≠ 5) (h6 : j ≠ 6) (h7 : j ≠ 7) : bw w x next j = w j := by
  unfold bw
  rw [upd_ne _ _ h7, upd_ne _ _ h6, upd_ne _ _ h5]
/-- a clock that begins a gap -/
theorem CI_bw {w : Nat → Int32} {t la a b c d x q sm sq : Nat} (h : LI w la a b c d) (hx : x < 10000) (hq : q < 2147483648) (h9 : w 9 = nI sm) (hsm : sm ≤ t) (h10 : w 10 = nI sq) (hsq : TP w sm sq) : CI (bw w (nI x) (nI q)) t := by
  obtain ⟨p, hp, e⟩ := bplace_nI h hx hq
  obtain ⟨gp, hg, g1, g2⟩ := LI_gapAt h hp
  refine ⟨la, a, b, c, d, p, gp, 0, sm, sq, LI_congr h (fun j hj => bw_lo w _ _ (by omega) (by omega) (by omega)), ?_, hp, ?_, g1, g2, ?_, by omega, ?_, by omega, ?_, TP_congr hsq (bw_lo w _ _ (by decide) (by decide) (by decide))⟩
  · unfold bw; rw [upd_ne _ _ (by decide), upd_ne _ _ (by decide), upd_self]; exact e
  · unfold bw; rw [upd_ne _ _ (by decide), upd_self, e]; exact hg
  · unfold bw; rw [upd_self]; exact nI0
  · rw [bw_lo w _ _ (by decide) (by decide) (by decide)]; exact h9
  · rw [bw_lo w _ _ (by decide) (by decide) (by decide)]; exact h10
theorem CI_mono {w : Nat → Int32} {t t' : Nat} (h : CI w t) (ht : t ≤ t') : CI w t' := by
  obtain ⟨la, a, b, c, d, p, gp, ag, sm, sq, hL, h5, hp, h6, g1, g2, h7, ha, h9, hs, h10, hq⟩ := h
  exact ⟨la, a, b, c, d, p, gp, ag, sm, sq, hL, h5, hp, h6, g1, g2, h7, ha, h9, by omega, h10, hq⟩
theorem CI_congr {w w' : Nat → Int32} {t : Nat} (h : CI w t) (e : ∀ j, j < 15 → w' j = w j) : CI w' t := by
  obtain ⟨la, a, b, c, d, p, gp, ag, sm, sq, hL, h5, hp, h6, g1, g2, h7, ha, h9, hs, h10, hq⟩ := h
  exact ⟨la, a, b, c, d, p, gp, ag, sm, sq, LI_congr hL (fun j hj => e j (by omega)), by rw [e 5 (by decide)]; exact h5, hp, by rw [e 6 (by decide)]; exact h6, g1, g2, by rw [e 7 (by decide)]; exact h7, ha, by rw [e 9 (by decide)]; exact h9, hs, by rw [e 10 (by decide)]; exact h10, TP_congr hq (e 8 (by decide))⟩
theorem GI_congr {r r' : Nat → Int32} {t : Nat} (h : GI r t) (e : ∀ j, j < 4 → r' j = r j) : GI r' t := by
  obtain ⟨la, z, mt, h0, h1, h2, h3, h4, h5, h6⟩ := h
  exact ⟨la, z, mt, by rw [e 0 (by decide)]; exact h0, h1, by rw [e 1 (by decide)]; exact h2, h3, h4, by rw [e 3 (by decide)]; exact h5, h6⟩
/-- a clock's tick: it tells, or it goes on -/
theorem CI_tick {w : Nat → Int32} {t : Nat} (h : CI w t) : (w 6 - (w 7 + 1) = 0 → ∀ x, x < 10000 → ∀ u : Nat → Int32, (∀ j, j < 15 → u j = tw (ow w) j) → CI (bw u (nI x) (w 5 + 1)) (t + 1)) ∧ (¬ w 6 - (w 7 + 1) = 0 → CI (ow w) (t + 1)) := by
  obtain ⟨la, a, b, c, d, p, gp, ag, sm, sq, hL, h5, hp, h6, g1, g2, h7, ha, h9, hs, h10, hq⟩ := h
  have hP := NP_bound (la := la) (b := b) (c := c) (d := d) (hL.2.2.2.2.2.2.2.2.1)
  have hr : w 6 - (w 7 + 1) = nI (gp - (ag + 1)) := by rw [h6, h7, nI_1, nI_sub (by omega)]
  have hz : w 6 - (w 7 + 1) = 0 ↔ gp = ag + 1 := by rw [hr, nI0, nI_inj (by omega) (by decide)]; omega
  constructor
  · intro h0 x hx u hu
    have hg := hz.mp h0
    rw [h5, nI_1]
    refine CI_bw (sm := sm + gp) (sq := sq + gp * gp) (LI_congr hL (fun j hj => ?_)) hx (by omega) ?_ (by omega) ?_ ?_
    · rw [hu j (by omega)]
      unfold tw ow
      rw [upd_ne _ _ (by omega), upd_ne _ _ (by omega), upd_ne _ _ (by omega), upd_ne _ _ (by omega), upd_ne _ _ (by omega)]
    · rw [hu 9 (by decide)]
      show w 9 + w 6 = _
      rw [h9, h6, nI_add]
    · rw [hu 10 (by decide)]
      show w 10 + w 6 * w 6 = _
      rw [h10, h6, nI_mul, nI_add]
    · have : gp * gp ≤ 50 * gp := Nat.mul_le_mul_right gp g2
      have h1 : 1 * gp ≤ gp * gp := Nat.mul_le_mul_right gp g1
      obtain ⟨hq0, k, k8, k1, k2⟩ := hq
      refine ⟨by omega, k + 1, ?_, by omega, by omega⟩
      rw [hu 8 (by decide)]
      show w 8 + 1 = _
      rw [k8, nI_1]
  · intro h0
    have hg : ¬ gp = ag + 1 := fun e => h0 (hz.mpr e)
    refine ⟨la, a, b, c, d, p, gp, ag + 1, sm, sq, LI_congr hL (fun j hj => ?_), ?_, hp, ?_, g1, g2, ?_, by omega, ?_, by omega, ?_, TP_congr hq rfl⟩
    · unfold ow; rw [upd_ne _ _ (by omega)]
    · exact h5
    · exact h6
    · show w 7 + 1 = _
      rw [h7, nI_1]
    · exact h9
    · exact h10
/-- what the clocks' loop of a tick leaves -/
theorem eC_inv {S : SV} {t : Nat} (h : Inv S t) : ∀ i, i ≤ cn S → (∀ k, k < 3 → (eC S i).1 k = S k) ∧ (∃ x, x < 10000 ∧ (eC S i).1 3 = nI x) ∧ (∀ k j, j < 4 → gw (eC S i).1 k j = gw S k j) ∧ (∀ k, k < cn S → i ≤ k → ∀ j, j < 15 → cw (eC S i).1 k j = cw S k j) ∧ (∀ k, k < i → CI (cw (eC S i).1 k) (t + 1)) ∧ ∃ z, z < 2 ^ i ∧ (eC S i).2 = nI z := by
  have hn := h.cn_le.1
  have hx := h.2.2.2.2.1
  have hC := h.2.2.2.2.2.1
  intro i
  induction i with
  | zero => intro _; exact ⟨fun _ _ => rfl, hx, fun _ _ _ => rfl, fun _ _ _ _ _ => rfl, fun k hk => absurd hk (Nat.not_lt_zero k), 0, by decide, nI0⟩
  | succ i ih =>
    intro hi
    obtain ⟨a1, ⟨x, hx1, hx2⟩, a3, a4, a5, z, hz, a6⟩ := ih (by omega)
    have hCi : CI (cw (eC S i).1 i) t := CI_congr (hC i (by omega)) (fun j hj => a4 i (by omega) (Nat.le_refl i) j hj)
    obtain ⟨t1, t2⟩ := CI_tick hCi
    have hzi : ∃ z', z' < 2 ^ (i + 1) ∧ (eC S i).2 ||| (1 <<< (nI i &&& 31)) = nI z' := by
      rw [a6]
      have key : ∀ i, i < 6 → ∀ z, z < 64 → z < 2 ^ i → nI z ||| (1 <<< (nI i &&& 31)) = nI (z + 2 ^ i) := by decide +kernel
      have h64 : (2 : Nat) ^ i ≤ 64 := Nat.le_trans (Nat.pow_le_pow_right (by decide) (show i ≤ 6 by omega)) (by decide)
      refine ⟨z + 2 ^ i, by rw [Nat.pow_succ]; omega, key i (by omega) z (by omega) hz⟩
    by_cases hT : tC (eC S i).1 i
    · have e1 : (eC S (i + 1)).1 = beg (setC (eC S i).1 i (tw (ow (cw (eC S i).1 i)))) i (cw (eC S i).1 i 5 + 1) := by
        show sC _ i = _
        unfold sC
        rw [if_pos hT]
      have e2 : (eC S (i + 1)).2 = (eC S i).2 ||| (1 <<< (nI i &&& 31)) := by
        show (if _ then _ else _) = _
        rw [if_pos hT]
      rw [e1, e2]
      have hcw : ∀ j, j < 15 → cw (setC (eC S i).1 i (tw (ow (cw (eC S i).1 i)))) i j = tw (ow (cw (eC S i).1 i)) j := fun j hj => cw_setC _ _ _ hj
      unfold beg
      rw [setC_lo _ _ _ (show 3 < 4 by decide), hx2]
      refine ⟨fun k hk => ?_, ?_, fun k j hj => ?_, fun k hk hik j hj => ?_, fun k hk => ?_, hzi⟩
      · rw [upd_ne _ _ (by omega), setC_lo _ _ _ (by omega), setC_lo _ _ _ (by omega)]
        exact a1 k hk
      · rw [upd_self]
        obtain ⟨x', q1, q2⟩ := bx_nI (w := cw (setC (eC S i).1 i (tw (ow (cw (eC S i).1 i)))) i) hx1
        exact ⟨x', q1, q2⟩
      · rw [gw_upd_lo _ _ _ (by decide), gw_setC _ _ (by omega), gw_setC _ _ (by omega)]
        exact a3 k j hj
      · rw [cw_upd_lo _ _ _ (by decide), cw_setC_ne _ _ hj (by omega), cw_setC_ne _ _ hj (by omega)]
        exact a4 k hk (by omega) j hj
      · rw [cw_upd_lo _ _ _ (by decide)]
        by_cases hki : k = i
        · subst hki
          exact CI_congr (t1 hT x hx1 _ hcw) (fun j hj => cw_setC _ _ _ hj)
        · refine CI_congr (a5 k (by omega)) (fun j hj => ?_)
          rw [cw_setC_ne _ _ hj hki, cw_setC_ne _ _ hj hki]
    · have e1 : (eC S (i + 1)).1 = setC (eC S i).1 i (ow (cw (eC S i).1 i)) := by
        show sC _ i = _
        unfold sC
        rw [if_neg hT]
      have e2 : (eC S (i + 1)).2 = (eC S i).2 := by
        show (if _ then _ else _) = _
        rw [if_neg hT]
      rw [e1, e2]
      refine ⟨fun k hk => ?_, ⟨x, hx1, ?_⟩, fun k j hj => ?_, fun k hk hik j hj => ?_, fun k hk => ?_, z, by rw [Nat.pow_succ]; omega, a6⟩
      · rw [setC_lo _ _ _ (by omega)]
        exact a1 k hk
      · rw [setC_lo _ _ _ (by decide)]
        exact hx2
      · rw [gw_setC _ _ (by omega)]
        exact a3 k j hj
      · rw [cw_setC_ne _ _ hj (by omega)]
        exact a4 k hk (by omega) j hj
      · by_cases hki : k = i
        · subst hki
          exact CI_congr (t2 hT) (fun j hj => cw_setC _ _ _ hj)
        · exact CI_congr (a5 k (by omega)) (fun j hj => cw_setC_ne _ _ hj hki)
/-- bits of six: the number of them -/
theorem jbc_nI : ∀ z, z < 64 → jbc (nI z) = nI (pop6 z) := by decide +kernel
theorem iand_nI : ∀ a, a < 64 → ∀ b, b < 64 → nI a &&& nI b = nI (a &&& b) ∧ a &&& b < 64 := by decide +kernel
theorem pop6_le : ∀ z, z < 64 → pop6 z ≤ 6 := by decide +kernel
theorem GI_tick {r : Nat → Int32} {t z : Nat} (h : GI r t) (hz : z < 64) : GI (gtick r (nI z)) (t + 1) := by
  obtain ⟨la, y, mt, h0, h1, h2, h3, h4, h5, h6⟩ := h
  obtain ⟨q1, q2⟩ := iand_nI y h3 z hz
  have hp := pop6_le _ q2
  have e : gtick r (nI z) 3 = nI (if pop6 (y &&& z) < 2 then mt else mt + 1) := by
    unfold gtick
    rw [if_neg (by decide), if_pos rfl, h2, q1, jbc_nI _ q2, h5, nI_1, nI2]
    by_cases hc : pop6 (y &&& z) < 2
    · rw [if_pos hc, if_pos ((nI_ltI (by omega) (by decide)).mpr hc)]
    · rw [if_neg hc, if_neg (fun e => hc ((nI_ltI (by omega) (by decide)).mp e))]
  exact ⟨la, y, _, h0, h1, h2, h3, h4, e, by split <;> omega⟩
theorem eG_inv {S : SV} {z : Nat} (hz : z < 64) (t m : Nat) (hm : m ≤ 4) (hG : ∀ k, k < m → GI (gw S k) t) : ∀ i, i ≤ m → (∀ k, k < 4 → eG S (nI z) i k = S k) ∧ (∀ k, k < 6 → ∀ j, j < 15 → cw (eG S (nI z) i) k j = cw S k j) ∧ (∀ k, i ≤ k → ∀ j, j < 4 → gw (eG S (nI z) i) k j = gw S k j) ∧ ∀ k, k < i → GI (gw (eG S (nI z) i) k) (t + 1) := by
  intro i
  induction i with
  | zero => intro _; exact ⟨fun _ _ => rfl, fun _ _ _ _ => rfl, fun _ _ _ _ => rfl, fun k hk => absurd hk (Nat.not_lt_zero k)⟩
  | succ i ih =>
    intro hi
    obtain ⟨a1, a2, a3, a4⟩ := ih (by omega)
    have e : eG S (nI z) (i + 1) = setGr (eG S (nI z) i) i (gtick (gw (eG S (nI z) i) i) (nI z)) := rfl
    rw [e]
    refine ⟨fun k hk => ?_, fun k hk j hj => ?_, fun k hik j hj => ?_, fun k hk => ?_⟩
    · rw [setGr_lo _ _ _ hk]; exact a1 k hk
    · rw [cw_setGr _ _ _ hk hj]; exact a2 k hk j hj
    · rw [gw_setGr_ne _ _ hj (by omega)]; exact a3 k (by omega) j hj
    · by_cases hki : k = i
      · subst hki
        exact GI_congr (GI_tick (GI_congr (hG k (by omega)) (fun j hj => a3 k (Nat.le_refl k) j hj)) hz) (fun j hj => gw_setGr _ _ _ hj)
      · exact GI_congr (a4 k (by omega)) (fun j hj => gw_setGr_ne _ _ hj hki)
theorem ends_lo {S : SV} {t : Nat} (h : Inv S t) : ends S 0 = S 0 ∧ ends S 1 = S 1 ∧ cn (ends S) = cn S ∧ gn (ends S) = gn S := by
  obtain ⟨a1, -, -, -, -, z, hz, a6⟩ := eC_inv h (cn S) (Nat.le_refl _)
  have hn := h.cn_le.1
  have hz6 : z < 64 := Nat.lt_of_lt_of_le hz (Nat.le_trans (Nat.pow_le_pow_right (by decide) hn) (by decide))
  have e : ∀ k, k < 2 → ends S k = S k := by
    intro k hk
    unfold ends
    rw [upd_ne _ _ (by omega), a6]
    have : ∀ i, eG (eC S (cn S)).1 (nI z) i k = (eC S (cn S)).1 k := by
      intro i
      induction i with
      | zero => rfl
      | succ i ih => exact (setGr_lo _ _ _ (by omega)).trans ih
    rw [this, a1 k (by omega)]
  refine ⟨e 0 (by decide), e 1 (by decide), ?_, ?_⟩
  · unfold cn; rw [e 0 (by decide)]
  · unfold gn; rw [e 1 (by decide)]
theorem endsZ_nI {S : SV} {t : Nat} (h : Inv S t) : ∃ z, z < 64 ∧ endsZ S = nI z := by
  obtain ⟨-, -, -, -, -, z, hz, a6⟩ := eC_inv h (cn S) (Nat.le_refl _)
  exact ⟨z, Nat.lt_of_lt_of_le hz (Nat.le_trans (Nat.pow_le_pow_right (by decide) h.cn_le.1) (by decide)), a6⟩
/-- the state behind a tick is one, too -/
theorem Inv_ends {S : SV} {t : Nat} (h : Inv S t) (ht : t + 1 ≤ 100200) : Inv (ends S) (t + 1) := by
  obtain ⟨a1, ⟨x, hx1, hx2⟩, a3, a4, a5, z, hz, a6⟩ := eC_inv h (cn S) (Nat.le_refl _)
  obtain ⟨e0, e1, ec, eg⟩ := ends_lo h
  have hn := h.cn_le
  have hm := h.gn_le
  have hz6 : z < 64 := Nat.lt_of_lt_of_le hz (Nat.le_trans (Nat.pow_le_pow_right (by decide) hn.1) (by decide))
  obtain ⟨b1, b2, b3, b4⟩ := eG_inv hz6 t (gn S) hm.1 (fun k hk => GI_congr (h.2.2.2.2.2.2 k hk) (fun j hj => a3 k j hj)) (gn S) (Nat.le_refl _)
  refine ⟨⟨cn S, hn.1, by rw [e0]; exact hn.2⟩, ⟨gn S, hm.1, by rw [e1]; exact hm.2⟩, ?_, ht, ⟨x, hx1, ?_⟩, ?_, ?_⟩
  · unfold ends
    rw [upd_self, h.2.2.1, nI_1]
  · unfold ends
    rw [upd_ne _ _ (by decide), a6, b1 3 (by decide)]
    exact hx2
  · rw [ec]
    intro i hi
    unfold ends
    rw [cw_upd_lo _ _ _ (by decide), a6]
    exact CI_congr (a5 i hi) (fun j hj => b2 i (by omega) j hj)
  · rw [eg]
    intro i hi
    unfold ends
    rw [gw_upd_lo _ _ _ (by decide), a6]
    exact b4 i hi
