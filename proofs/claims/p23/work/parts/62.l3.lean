/-! THE LAW BESIDE THE CLASS -/
theorem isIn_dec (z : Int32) (i : Nat) : isIn z i ∨ ¬ isIn z i := Classical.em _
/-- all clocks of a group are there, and of its law -/
def GP (S : SV) : Prop := ∀ k, k < gn S → ∀ i, i < 6 → isIn (gw S k 1) i → i < cn S ∧ cw S i 0 = gw S k 0
def J (M : Mem) (S : SV) : Prop := ∃ (P : Nat → SV) (pn : Nat), CA M (S, P, pn, fun _ => 0, 0) ∧ AI (S, P, pn, fun _ => 0, 0) ∧ GP S
def JP (M2 : Mem) : Prop := ∃ (M' : Mem) (S' : SV), M2 = WM M' S' ∧ J M' S'
theorem CA_WM {M : Mem} {A : AS} (h : CA M A) (hI : AI A) (S : SV) : CA (WM M S) A := CA_frame h hI (fun a ha => WM_lo M S (by omega))
theorem JP_ch {M M2 : Mem} {S S' : SV} {P : Nat → SV} {pn : Nat} {r : Int32 × SV} (hr : r.2 = S') (hn : ¬ r.1 < 0) (h1 : CA M2 (apA (S, P, pn, fun _ => 0, 0) r)) (h2 : AI (apA (S, P, pn, fun _ => 0, 0) r)) (hf : frC (WM M S') M2) (hG : GP S') : JP M2 := by
  have e : apA (S, P, pn, fun _ => 0, 0) r = (S', (pushP P pn S).1, (pushP P pn S).2, fun _ => 0, 0) := by rw [← hr]; exact if_neg hn
  rw [e] at h1 h2
  exact ⟨M2, S', WM_fr hf, _, _, h1, h2, hG⟩
theorem CA_no {M2 : Mem} {A : AS} {r : Int32 × SV} (hn : r.1 < 0) (h1 : CA M2 (apA A r)) : CA M2 A := by
  have e : apA A r = A := if_pos hn
  rw [e] at h1
  exact h1
theorem JP_no {M M2 : Mem} {S : SV} {P : Nat → SV} {pn : Nat} {r : Int32 × SV} (hn : r.1 < 0) (h1 : CA M2 (apA (S, P, pn, fun _ => 0, 0) r)) (hI : AI (S, P, pn, fun _ => 0, 0)) (hf : frC (WM M S) M2) (hG : GP S) : JP M2 :=
  ⟨M2, S, WM_fr hf, P, pn, CA_no hn h1, hI, hG⟩
theorem w_clock (l : Launch) (g : Gm) (M : Mem) (S S' : SV) (P : Nat → SV) (pn : Nat) (hA : CA M (S, P, pn, fun _ => 0, 0)) (hI : AI (S, P, pn, fun _ => 0, 0)) (la a b c d : Int32) : Cn l yX7_clock cX7_clock 6 (some .int) 4 104 g [.ref (ad g 0), .int la, .int a, .int b, .int c, .int d] (WM M S') (fun v M2 => v = some (.int (oClock S la a b c d).1) ∧ CA M2 (apA (S, P, pn, fun _ => 0, 0) (oClock S la a b c d)) ∧ AI (apA (S, P, pn, fun _ => 0, 0) (oClock S la a b c d)) ∧ frC (WM M S') M2) :=
  c_X7_clock l g (WM M S') (S, P, pn, fun _ => 0, 0) (CA_WM hA hI S') hI la a b c d
theorem w_wind (l : Launch) (g : Gm) (M : Mem) (S S' : SV) (P : Nat → SV) (pn : Nat) (hA : CA M (S, P, pn, fun _ => 0, 0)) (hI : AI (S, P, pn, fun _ => 0, 0)) (x : Int32) : Cn l yX7_wind cX7_wind 2 (some .int) 4 104 g [.ref (ad g 0), .int x] (WM M S') (fun v M2 => v = some (.int (oWind S x).1) ∧ CA M2 (apA (S, P, pn, fun _ => 0, 0) (oWind S x)) ∧ AI (apA (S, P, pn, fun _ => 0, 0) (oWind S x)) ∧ frC (WM M S') M2) :=
  c_X7_wind l g (WM M S') (S, P, pn, fun _ => 0, 0) (CA_WM hA hI S') hI x
theorem w_tick (l : Launch) (g : Gm) (M : Mem) (S S' : SV) (P : Nat → SV) (pn : Nat) (hA : CA M (S, P, pn, fun _ => 0, 0)) (hI : AI (S, P, pn, fun _ => 0, 0)) (k : Int32) : Cn l yX7_tick cX7_tick 2 (some .int) 4 104 g [.ref (ad g 0), .int k] (WM M S') (fun v M2 => v = some (.int (oTick S k).1) ∧ CA M2 (apA (S, P, pn, fun _ => 0, 0) (oTick S k)) ∧ AI (apA (S, P, pn, fun _ => 0, 0) (oTick S k)) ∧ frC (WM M S') M2) :=
  c_X7_tick l g (WM M S') (S, P, pn, fun _ => 0, 0) (CA_WM hA hI S') hI k
theorem w_passenger (l : Launch) (g : Gm) (M : Mem) (S S' : SV) (P : Nat → SV) (pn : Nat) (hA : CA M (S, P, pn, fun _ => 0, 0)) (hI : AI (S, P, pn, fun _ => 0, 0)) (x : Int32) : Cn l yX7_passenger cX7_passenger 2 (some .int) 4 104 g [.ref (ad g 0), .int x] (WM M S') (fun v M2 => v = some (.int (oPass S x).1) ∧ CA M2 (apA (S, P, pn, fun _ => 0, 0) (oPass S x)) ∧ AI (apA (S, P, pn, fun _ => 0, 0) (oPass S x)) ∧ frC (WM M S') M2) :=
  c_X7_passenger l g (WM M S') (S, P, pn, fun _ => 0, 0) (CA_WM hA hI S') hI x
theorem w_group (l : Launch) (g : Gm) (M : Mem) (S S' : SV) (P : Nat → SV) (pn : Nat) (hA : CA M (S, P, pn, fun _ => 0, 0)) (hI : AI (S, P, pn, fun _ => 0, 0)) (la : Int32) : Cn l yX7_group cX7_group 2 (some .int) 4 104 g [.ref (ad g 0), .int la] (WM M S') (fun v M2 => v = some (.int (oGroup S la).1) ∧ CA M2 (apA (S, P, pn, fun _ => 0, 0) (oGroup S la)) ∧ AI (apA (S, P, pn, fun _ => 0, 0) (oGroup S la)) ∧ frC (WM M S') M2) :=
  c_X7_group l g (WM M S') (S, P, pn, fun _ => 0, 0) (CA_WM hA hI S') hI la
theorem w_join (l : Launch) (g : Gm) (M : Mem) (S S' : SV) (P : Nat → SV) (pn : Nat) (hA : CA M (S, P, pn, fun _ => 0, 0)) (hI : AI (S, P, pn, fun _ => 0, 0)) (gx x : Int32) : Cn l yX7_join cX7_join 3 (some .int) 4 104 g [.ref (ad g 0), .int gx, .int x] (WM M S') (fun v M2 => v = some (.int (oJoin S gx x).1) ∧ CA M2 (apA (S, P, pn, fun _ => 0, 0) (oJoin S gx x)) ∧ AI (apA (S, P, pn, fun _ => 0, 0) (oJoin S gx x)) ∧ frC (WM M S') M2) :=
  c_X7_join l g (WM M S') (S, P, pn, fun _ => 0, 0) (CA_WM hA hI S') hI gx x
theorem w_leave (l : Launch) (g : Gm) (M : Mem) (S S' : SV) (P : Nat → SV) (pn : Nat) (hA : CA M (S, P, pn, fun _ => 0, 0)) (hI : AI (S, P, pn, fun _ => 0, 0)) (gx x : Int32) : Cn l yX7_leave cX7_leave 3 (some .int) 4 104 g [.ref (ad g 0), .int gx, .int x] (WM M S') (fun v M2 => v = some (.int (oLeave S gx x).1) ∧ CA M2 (apA (S, P, pn, fun _ => 0, 0) (oLeave S gx x)) ∧ AI (apA (S, P, pn, fun _ => 0, 0) (oLeave S gx x)) ∧ frC (WM M S') M2) :=
  c_X7_leave l g (WM M S') (S, P, pn, fun _ => 0, 0) (CA_WM hA hI S') hI gx x
theorem w_clockOf (l : Launch) (g : Gm) (M : Mem) (S S' : SV) (P : Nat → SV) (pn : Nat) (hA : CA M (S, P, pn, fun _ => 0, 0)) (hI : AI (S, P, pn, fun _ => 0, 0)) (x w : Int32) : Cn l yX7_clockOf cX7_clockOf 4 (some .int) 2 41 g [.ref (ad g 0), .int x, .int w] (WM M S') (fun v M2 => v = some (.int (oClockOf S x w)) ∧ M2 = WM M S') :=
  c_X7_clockOf l g (WM M S') (S, P, pn, fun _ => 0, 0) (CA_WM hA hI S') hI x w
theorem w_groupOf (l : Launch) (g : Gm) (M : Mem) (S S' : SV) (P : Nat → SV) (pn : Nat) (hA : CA M (S, P, pn, fun _ => 0, 0)) (hI : AI (S, P, pn, fun _ => 0, 0)) (x w : Int32) : Cn l yX7_groupOf cX7_groupOf 4 (some .int) 3 65 g [.ref (ad g 0), .int x, .int w] (WM M S') (fun v M2 => v = some (.int (oGroupOf S x w)) ∧ M2 = WM M S') :=
  c_X7_groupOf l g (WM M S') (S, P, pn, fun _ => 0, 0) (CA_WM hA hI S') hI x w
theorem w_next (l : Launch) (g : Gm) (M : Mem) (S S' : SV) (P : Nat → SV) (pn : Nat) (hA : CA M (S, P, pn, fun _ => 0, 0)) (hI : AI (S, P, pn, fun _ => 0, 0)) (x : Int32) : Cn l yX7_next cX7_next 2 (some .int) 2 47 g [.ref (ad g 0), .int x] (WM M S') (fun v M2 => v = some (.int (oNext S x)) ∧ M2 = WM M S') :=
  c_X7_next l g (WM M S') (S, P, pn, fun _ => 0, 0) (CA_WM hA hI S') hI x
theorem w_count (l : Launch) (g : Gm) (M : Mem) (S S' : SV) (P : Nat → SV) (pn : Nat) (hA : CA M (S, P, pn, fun _ => 0, 0)) (hI : AI (S, P, pn, fun _ => 0, 0)) (w : Int32) : Cn l yX7_count cX7_count 2 (some .int) 3 65 g [.ref (ad g 0), .int w] (WM M S') (fun v M2 => v = some (.int (oCount (S, P, pn, fun _ => 0, 0) w)) ∧ M2 = WM M S') :=
  c_X7_count l g (WM M S') (S, P, pn, fun _ => 0, 0) (CA_WM hA hI S') hI w
section GNUM
variable {X : XT} {g : Gm} {cc : ByteArray} {nL : Nat} {own : String} {rf rl : Nat} {M : Mem} {pc : Nat} {lv : List (Option Value)} {st : List Value}
theorem g_iremN (F : FX X g cc nL own rf rl) {x y : Int32} {a b : Nat} (hx : x = nI a) (hy : y = nI b) (ha : a < 2147483648) (hb : 0 < b) (hb2 : b < 2147483648) (hd : decode cc pc = .ok (.irem, 1)) (k : G X g nL M (pc + 1) lv (.int (nI (a % b)) :: st)) : G X g nL M pc lv (.int y :: .int x :: st) :=
  g_irem F (by rw [hy]; exact nI_ne0 hb hb2) hd (by rw [hx, hy, jrem_nI ha hb hb2]; exact k)
theorem g_idivN (F : FX X g cc nL own rf rl) {x y : Int32} {a b : Nat} (hx : x = nI a) (hy : y = nI b) (ha : a < 2147483648) (hb : 0 < b) (hb2 : b < 2147483648) (hd : decode cc pc = .ok (.idiv, 1)) (k : G X g nL M (pc + 1) lv (.int (nI (a / b)) :: st)) : G X g nL M pc lv (.int y :: .int x :: st) :=
  g_idiv F (by rw [hy]; exact nI_ne0 hb hb2) hd (by rw [hx, hy, idiv_nI ha hb hb2]; exact k)
theorem g_iaddN (F : FX X g cc nL own rf rl) {x y : Int32} {a b : Nat} (hx : x = nI a) (hy : y = nI b) (hd : decode cc pc = .ok (.iadd, 1)) (k : G X g nL M (pc + 1) lv (.int (nI (a + b)) :: st)) : G X g nL M pc lv (.int y :: .int x :: st) :=
  g_iadd F hd (by rw [hx, hy, nI_add]; exact k)
end GNUM
/-! a clock comes -/
theorem setC_upd_lo (S : SV) (i : Nat) (w : Nat → Int32) {k : Nat} (hk : k < 4) (v : Int32) : setC (upd S k v) i w = upd (setC S i w) k v := by
  funext q
  rw [upd_get]
  unfold setC
  rw [upd_get]
  by_cases h : q = k
  · rw [if_pos h, if_pos h, if_neg (by omega)]
  · rw [if_neg h, if_neg h]
theorem bplace_full {w : Nat → Int32} {la a b c d : Nat} (hL : LI w la a b c d) (x : Int32) : bplace w x (nI (NP la b c d)) = bplace w x (nI 0) := by
  have hP := NP_bound (la := la) (b := b) (c := c) (d := d) (hL.2.2.2.2.2.2.2.2.1)
  unfold bplace
  rw [LI_places hL, jrem_nI (by omega) (by omega) (by omega), jrem_nI (by omega) (by omega) (by omega), Nat.mod_self, Nat.zero_mod]
theorem bw_congr3 {u v : Nat → Int32} {la a b c d x q : Nat} (hL : LI u la a b c d) (hx : x < 10000) (hq : q < 2147483648) (e : ∀ j, j < 15 → j ≠ 5 → j ≠ 6 → j ≠ 7 → u j = v j) : (∀ j, j < 15 → bw u (nI x) (nI q) j = bw v (nI x) (nI q) j) ∧ bx u (nI x) = bx v (nI x) := by
  obtain ⟨p, hp, hpe⟩ := bplace_nI hL hx hq
  have hl2 := LI_law2 hL
  have hP := (NP_bound (la := la) (b := b) (c := c) (d := d) (hL.2.2.2.2.2.2.2.2.1)).2
  have e' : ∀ j, j < 5 → u j = v j := fun j hj => e j (by omega) (by omega) (by omega) (by omega)
  have hpl : places v = places u := by
    unfold places
    rw [e' 0 (by decide), e' 1 (by decide), e' 2 (by decide), e' 3 (by decide), e' 4 (by decide)]
  have hbp : bplace v (nI x) (nI q) = nI p := by
    rw [← hpe]
    unfold bplace
    rw [hpl, e' 0 (by decide)]
  have hg : gapAt u (nI p) = gapAt v (nI p) := by
    unfold gapAt
    rw [← e' 0 (by decide), ← e' 1 (by decide), ← e' 2 (by decide), ← e' 3 (by decide)]
    by_cases hl : u 0 = 2
    · rw [if_pos hl, if_pos hl]
    · rw [if_neg hl, if_neg hl]
      have h4 := NP_burst (fun z => hl (hl2.mpr z)) hp
      rw [nI_clamp (by omega)]
      exact e' _ (by omega)
  refine ⟨fun j hj => ?_, ?_⟩
  · unfold bw
    rw [hpe, hbp, hg]
    by_cases h7 : j = 7
    · subst h7; rw [upd_self, upd_self]
    · rw [upd_ne _ _ h7, upd_ne _ _ h7]
      by_cases h6 : j = 6
      · subst h6; rw [upd_self, upd_self]
      · rw [upd_ne _ _ h6, upd_ne _ _ h6]
        by_cases h5 : j = 5
        · subst h5; rw [upd_self, upd_self]
        · rw [upd_ne _ _ h5, upd_ne _ _ h5]
          exact e j hj h5 h6 h7
  · unfold bx
    rw [e' 0 (by decide)]
theorem addC_law {S : SV} {la a b c d : Int32} {x l' a' b' c' d' : Nat} {w3 : Nat → Int32} (hL : LI (w0 la a b c d (-1)) l' a' b' c' d') (hx3 : S 3 = nI x) (hx : x < 10000) (e : ∀ j, j < 15 → j ≠ 5 → j ≠ 6 → j ≠ 7 → w0 la a b c d (-1) j = w3 j) (h5 : w3 5 + 1 = nI (NP l' b' c' d')) : upd (beg (setC S (cn S) w3) (cn S) (cw (setC S (cn S) w3) (cn S) 5 + 1)) 0 (S 0 + 1) = addC S la a b c d := by
  have hP := NP_bound (la := l') (b := b') (c := c') (d := d') (hL.2.2.2.2.2.2.2.2.1)
  have e1 : ∀ j, j < 15 → j ≠ 5 → j ≠ 6 → j ≠ 7 → w0 la a b c d (-1) j = cw (setC S (cn S) w3) (cn S) j := fun j hj h h6 h7 => by
    rw [cw_setC _ _ _ hj]
    exact e j hj h h6 h7
  have e2 : ∀ j, j < 15 → j ≠ 5 → w0 la a b c d (-1) j = cw (setC S (cn S) (w0 la a b c d 0)) (cn S) j := fun j hj h => by
    rw [cw_setC _ _ _ hj]
    unfold w0
    simp [h]
  obtain ⟨k1, k2⟩ := bw_congr3 (q := NP l' b' c' d') hL hx (by omega) e1
  obtain ⟨m1, m2⟩ := bw_congr (q := 0) hL hx (by omega) e2
  have hq : bw (w0 la a b c d (-1)) (nI x) (nI (NP l' b' c' d')) = bw (w0 la a b c d (-1)) (nI x) (nI 0) := by
    unfold bw
    rw [bplace_full hL]
  simp only [nI_0] at m1 hq
  unfold addC beg
  rw [cw_upd_lo _ _ _ (by decide), upd_ne _ _ (show 3 ≠ 0 by decide), setC_lo _ _ _ (show 3 < 4 by decide), setC_lo _ _ _ (show 3 < 4 by decide), setC_upd_lo _ _ _ (by decide), setC_setC, setC_setC, cw_setC _ _ _ (show 5 < 15 by decide), h5, hx3, upd_comm _ (show 3 ≠ 0 by decide), ← k2, ← m2]
  rw [setC_congr S (cn S) (fun j hj => ((k1 j hj).symm.trans (congrFun hq j)).trans (m1 j hj))]
theorem LI_w0 {la a b c d mn : Nat} (h0 : la ≤ 2) (a1 : 1 ≤ a) (a2 : a ≤ 50) (b1 : b ≤ 50) (b2 : 1 ≤ b ↔ la = 2 ∨ 1 < mn) (c1 : c ≤ 50) (c2 : 1 ≤ c ↔ la = 2 ∨ 2 < mn) (d1 : d ≤ 50) (d2 : 1 ≤ d ↔ la < 2 ∧ 3 < mn) (p : Int32) : LI (w0 (nI la) (nI a) (nI b) (nI c) (nI d) p) la a b c d :=
  ⟨rfl, rfl, rfl, rfl, rfl, h0, a1, a2, b1, c1, d1, fun e => ⟨b2.mpr (Or.inl e), c2.mpr (Or.inl e), by omega⟩, fun e => ⟨fun hb => by omega, fun hc => by omega⟩⟩
theorem gapP_of {a : Nat} (a1 : 1 ≤ a) (a2 : a ≤ 50) : gapP (nI a) := ⟨(nI_leI (a := 1) (by decide) (by omega)).mpr a1, (nI_leI (b := 50) (by omega) (by decide)).mpr a2⟩
theorem clockP_of {la a b c d mn : Nat} (h0 : la ≤ 2) (a1 : 1 ≤ a) (a2 : a ≤ 50) (b1 : b ≤ 50) (b2 : 1 ≤ b ↔ la = 2 ∨ 1 < mn) (c1 : c ≤ 50) (c2 : 1 ≤ c ↔ la = 2 ∨ 2 < mn) (d1 : d ≤ 50) (d2 : 1 ≤ d ↔ la < 2 ∧ 3 < mn) : clockP (nI la) (nI a) (nI b) (nI c) (nI d) := by
  have mf : ∀ x y : Nat, x ≤ 50 → y ≤ 50 → (1 ≤ y → 1 ≤ x) → mfP (nI x) (nI y) := by
    intro x y hx hy h
    by_cases hy0 : y = 0
    · left; rw [hy0]; exact nI_0
    · right; exact ⟨nI_ne0 (h (by omega)) (by omega), gapP_of (by omega) hy⟩
  have hl2 : nI la = 2 ↔ la = 2 := nI_inj (b := 2) (by omega) (by decide)
  refine ⟨⟨nI_pos' (by omega), (nI_leI (b := 2) (by omega) (by decide)).mpr h0⟩, gapP_of a1 a2, fun e => ?_, fun e => ?_⟩
  · have e' := hl2.mp e
    have hd0 : d = 0 := by omega
    exact ⟨gapP_of (b2.mpr (Or.inl e')) b1, gapP_of (c2.mpr (Or.inl e')) c1, by rw [hd0]; exact nI_0⟩
  · exact ⟨mf a b a2 b1 (fun _ => a1), mf b c b1 c1 (fun h => by omega), mf c d c1 d1 (fun h => by omega)⟩
def wz (w : Nat → Int32) (i : Nat) : Nat → Int32 := fun j => if 8 ≤ j ∧ j < 8 + i then 0 else w j
theorem wz_s (w : Nat → Int32) (i : Nat) : upd (wz w i) (8 + i) 0 = wz w (i + 1) := by
  funext j
  unfold wz
  rw [upd_get]
  by_cases h : j = 8 + i
  · rw [if_pos h, if_pos (by omega)]
  · rw [if_neg h]
    by_cases h2 : 8 ≤ j ∧ j < 8 + i
    · rw [if_pos h2, if_pos (by omega)]
    · rw [if_neg h2, if_neg (by omega)]
theorem wz_0 (w : Nat → Int32) : wz w 0 = w := by
  funext j
  unfold wz
  rw [if_neg (by omega)]
theorem GP_addC {S : SV} {t : Nat} {la a b c d : Int32} {x l' a' b' c' d' : Nat} (hi : Inv S t) (hn : cn S < 6) (hL : LI (w0 la a b c d (-1)) l' a' b' c' d') (hx3 : S 3 = nI x) (hx : x < 10000) (h : GP S) : GP (addC S la a b c d) := by
  obtain ⟨-, -, e3, e4⟩ := addC_cw hL hx3 hx
  have g1 : gn (addC S la a b c d) = gn S := by
    unfold gn
    rw [addC_lo _ _ _ _ _ _ (show 1 < 3 by decide), if_neg (by decide)]
  have c1 : cn (addC S la a b c d) = cn S + 1 := by
    refine cn_of (n := cn S + 1) ?_ (by omega)
    rw [addC_lo _ _ _ _ _ _ (show 0 < 3 by decide), if_pos rfl, hi.cn_le.2, nI_1]
  intro k hk i hi6 hin
  rw [g1] at hk
  rw [e4 hn k 1] at hin
  obtain ⟨q1, q2⟩ := h k hk i hi6 hin
  rw [c1, e4 hn k 0, e3 i (by omega) 0 (by decide)]
  exact ⟨by omega, q2⟩
set_option maxHeartbeats 4000000 in
set_option maxRecDepth 100000 in
theorem c_L_comes (l : Launch) (g : Gm) (M : Mem) (S : SV) (hJ : J M S) (y : Nat) (hy : y < 10000000) : Cn l yL_comes cL_comes 13 (some .boolean) 5 129 g [.ref (ad g 0), .ref (ad g 224), .ref (ad g 225), .ref (ad g 226), .int (nI y)] (WM M S) (fun v M2 => v = some (.int 1) ∧ JP M2) := by
  refine Cn.intro (lv0 := [some (.ref (ad g 0)), some (.ref (ad g 224)), some (.ref (ad g 225)), some (.ref (ad g 226)), some (.int (nI y)), none, none, none, none, none, none, none, none]) 8 (by decide +kernel) (Nat.le_of_ble_eq_true rfl) rfl (fun X F r => ?_)
  obtain ⟨P, pn, hCA, hAI, hGP⟩ := hJ
  obtain ⟨t, ht, hi0⟩ := hAI.1
  have hi : Inv S t := hi0
  have hn := hi.cn_le
  obtain ⟨x, hx, hx3⟩ := hi.2.2.2.2.1
  have T148 : ∀ la mn a b c d : Nat, (la ≤ 2) → (1 ≤ mn) → (mn ≤ 4) → (1 ≤ a) → (a ≤ 50) → (b ≤ 50) → (1 ≤ b ↔ la = 2 ∨ 1 < mn) → (c ≤ 50) → (1 ≤ c ↔ la = 2 ∨ 2 < mn) → (d ≤ 50) → (1 ≤ d ↔ la < 2 ∧ 3 < mn) → G X g 13 (WM M S) 148 [some (.ref (ad g 0)), some (.ref (ad g 224)), some (.ref (ad g 225)), some (.ref (ad g 226)), some (.int (nI y)), some (.int (nI la)), some (.int (nI mn)), some (.int (nI a)), some (.int (nI b)), some (.int (nI d)), some (.int (nI c)), none, none] [] := by
    intro la mn a b c d h0 m1 m2 a1 a2 b1 b2 c1 c2 d1 d2
    have hP := NP_bound (la := la) (b := b) (c := c) (d := d) b1
    have hLI : ∀ p : Int32, LI (w0 (nI la) (nI a) (nI b) (nI c) (nI d) p) la a b c d := fun p => LI_w0 h0 a1 a2 b1 b2 c1 c2 d1 d2 p
    have hcP := clockP_of h0 a1 a2 b1 b2 c1 c2 d1 d2
    refine g_aload_n (pc := 148) F dL_comes_148 rfl ?_
    refine g_iconst (pc := 149) (v := 0) F dL_comes_149 (by decide) ?_
    refine g_gld (pc := 150) (j := 0) F rfl (by decide) dL_comes_150 ?_
    refine g_bipush (pc := 151) (v := 6) F dL_comes_151 (by decide) ?_
    refine g_icmp_ne (pc := 153) (tgt := 181) F dL_comes_153 (by decide) (fun c153 => ?_) (fun c153 => ?_)
    · have hn6 : cn S < 6 := by
        have h6 : cn S ≠ 6 := fun e => c153 (by rw [hn.2, e]; rfl)
        omega
      have eO : oClock S (nI la) (nI a) (nI b) (nI c) (nI d) = (S 0, addC S (nI la) (nI a) (nI b) (nI c) (nI d)) := (if_pos hcP).trans (if_neg c153)
      have hw1 : ∀ j, j < 5 → wz (upd (upd (upd (upd (upd (cw S (cn S)) 0 (nI la)) 1 (nI a)) 2 (nI b)) 3 (nI c)) 4 (nI d)) 7 j = w0 (nI la) (nI a) (nI b) (nI c) (nI d) 0 j := fun j hj => match j, hj with
        | 0, _ | 1, _ | 2, _ | 3, _ | 4, _ => rfl
      have hw3 : ∀ j, j < 15 → j ≠ 5 → j ≠ 6 → j ≠ 7 → w0 (nI la) (nI a) (nI b) (nI c) (nI d) (-1) j = (upd (wz (upd (upd (upd (upd (upd (cw S (cn S)) 0 (nI la)) 1 (nI a)) 2 (nI b)) 3 (nI c)) 4 (nI d)) 7) 5 (nI (NP la b c d) - 1)) j := fun j hj h5 h6 h7 => match j, hj with
        | 0, _ | 1, _ | 2, _ | 3, _ | 4, _ => rfl
        | 5, _ => absurd rfl h5
        | 6, _ => absurd rfl h6
        | 7, _ => absurd rfl h7
        | 8, _ | 9, _ | 10, _ | 11, _ | 12, _ | 13, _ | 14, _ => rfl
      refine G.toC (cn S) ?_
      refine g_bipush (pc := 181) (v := 8) F dL_comes_181 (by decide) ?_
      refine g_aload_n (pc := 183) F dL_comes_183 rfl ?_
      refine g_iconst (pc := 184) (v := 0) F dL_comes_184 (by decide) ?_
      refine g_gld (pc := 185) (j := 0) F rfl (by decide) dL_comes_185 ?_
      rw [setC_lo _ _ _ (show 0 < 4 by decide), hn.2]
      refine g_imul (pc := 186) F dL_comes_186 ?_
      refine g_istore (pc := 187) F dL_comes_187 (by decide) rfl ?_
      refine g_aload_n (pc := 189) F dL_comes_189 rfl ?_
      refine g_iload (pc := 190) F dL_comes_190 rfl ?_
      refine g_iload (pc := 192) F dL_comes_192 rfl ?_
      refine g_cstS (pc := 194) (i := (cn S)) (j := 0) F (ix80 (cn S)) (by omega) (by decide) dL_comes_194 ?_
      refine g_aload_n (pc := 195) F dL_comes_195 rfl ?_
      refine g_iload (pc := 196) F dL_comes_196 rfl ?_
      refine g_iconst (pc := 198) (v := 1) F dL_comes_198 (by decide) ?_
      refine g_iadd (pc := 199) F dL_comes_199 ?_
      refine g_iload (pc := 200) F dL_comes_200 rfl ?_
      refine g_cstS (pc := 202) (i := (cn S)) (j := 1) F (ix8 (cn S) 1) (by omega) (by decide) dL_comes_202 ?_
      refine g_aload_n (pc := 203) F dL_comes_203 rfl ?_
      refine g_iload (pc := 204) F dL_comes_204 rfl ?_
      refine g_iconst (pc := 206) (v := 2) F dL_comes_206 (by decide) ?_
      refine g_iadd (pc := 207) F dL_comes_207 ?_
      refine g_iload (pc := 208) F dL_comes_208 rfl ?_
      refine g_cstS (pc := 210) (i := (cn S)) (j := 2) F (ix8 (cn S) 2) (by omega) (by decide) dL_comes_210 ?_
      refine g_aload_n (pc := 211) F dL_comes_211 rfl ?_
      refine g_iload (pc := 212) F dL_comes_212 rfl ?_
      refine g_iconst (pc := 214) (v := 3) F dL_comes_214 (by decide) ?_
      refine g_iadd (pc := 215) F dL_comes_215 ?_
      refine g_iload (pc := 216) F dL_comes_216 rfl ?_
      refine g_cstS (pc := 218) (i := (cn S)) (j := 3) F (ix8 (cn S) 3) (by omega) (by decide) dL_comes_218 ?_
      refine g_aload_n (pc := 219) F dL_comes_219 rfl ?_
      refine g_iload (pc := 220) F dL_comes_220 rfl ?_
      refine g_iconst (pc := 222) (v := 4) F dL_comes_222 (by decide) ?_
      refine g_iadd (pc := 223) F dL_comes_223 ?_
      refine g_iload (pc := 224) F dL_comes_224 rfl ?_
      refine g_cstS (pc := 226) (i := (cn S)) (j := 4) F (ix8 (cn S) 4) (by omega) (by decide) dL_comes_226 ?_
      refine g_iconst (pc := 227) (v := 0) F dL_comes_227 (by decide) ?_
      refine g_istore (pc := 228) F dL_comes_228 (by decide) rfl ?_
      have T255 : G X g 13 (WM M (setC S (cn S) (wz (upd (upd (upd (upd (upd (cw S (cn S)) 0 (nI la)) 1 (nI a)) 2 (nI b)) 3 (nI c)) 4 (nI d)) 7))) 255 [some (.ref (ad g 0)), some (.ref (ad g 224)), some (.ref (ad g 225)), some (.ref (ad g 226)), some (.int (nI y)), some (.int (nI la)), some (.int (nI mn)), some (.int (nI a)), some (.int (nI b)), some (.int (nI d)), some (.int (nI c)), some (.int (8 * nI (cn S))), some (.int (nI 7))] [] := by
        refine g_aload_n (pc := 255) F dL_comes_255 rfl ?_
        refine g_iload (pc := 256) F dL_comes_256 rfl ?_
        refine g_iconst (pc := 258) (v := 5) F dL_comes_258 (by decide) ?_
        refine g_iadd (pc := 259) F dL_comes_259 ?_
        refine g_aload_n (pc := 260) F dL_comes_260 rfl ?_
        refine g_aload_n (pc := 261) F dL_comes_261 rfl ?_
        refine g_iconst (pc := 262) (v := 0) F dL_comes_262 (by decide) ?_
        refine g_gld (pc := 263) (j := 0) F rfl (by decide) dL_comes_263 ?_
        rw [setC_lo _ _ _ (show 0 < 4 by decide), hn.2]
        refine g_callS (pc := 264) (rf2 := 0) (rl2 := 0) F cs_L_9 (by rfl) (by rfl) (Nat.le_of_ble_eq_true (by rfl)) (by decide) dL_comes_264 (c_L_many _ g M (setC S (cn S) (wz (upd (upd (upd (upd (upd (cw S (cn S)) 0 (nI la)) 1 (nI a)) 2 (nI b)) 3 (nI c)) 4 (nI d)) 7)) (cn S) hn6 la a b c d (LI_congr (hLI 0) (fun j hj => (cw_setC _ _ _ (by omega)).trans (hw1 j hj)))) (fun v M2 hz => ?_)
        obtain ⟨rfl, rfl⟩ := hz
        refine g_iconst (pc := 267) (v := 1) F dL_comes_267 (by decide) ?_
        refine g_isub (pc := 268) F dL_comes_268 ?_
        refine g_cstS (pc := 269) (i := (cn S)) (j := 5) F (ix8 (cn S) 5) (by omega) (by decide) dL_comes_269 ?_
        refine g_aload_n (pc := 270) F dL_comes_270 rfl ?_
        refine g_aload_n (pc := 271) F dL_comes_271 rfl ?_
        refine g_aload_n (pc := 272) F dL_comes_272 rfl ?_
        refine g_iconst (pc := 273) (v := 0) F dL_comes_273 (by decide) ?_
        refine g_gld (pc := 274) (j := 0) F rfl (by decide) dL_comes_274 ?_
        rw [setC_lo _ _ _ (show 0 < 4 by decide), hn.2]
        refine g_callS (pc := 275) (rf2 := 1) (rl2 := 23) F cs_L_19 (by rfl) (by rfl) (Nat.le_of_ble_eq_true (by rfl)) (by decide) dL_comes_275 (c_L_begins _ g M (setC S (cn S) (upd (wz (upd (upd (upd (upd (upd (cw S (cn S)) 0 (nI la)) 1 (nI a)) 2 (nI b)) 3 (nI c)) 4 (nI d)) 7) 5 (nI (NP la b c d) - 1))) (cn S) hn6 la a b c d (LI_congr (hLI 0) (fun j hj => (cw_setC _ _ _ (by omega)).trans ((upd_ne _ _ (by omega)).trans (hw1 j hj)))) x hx (by rw [setC_lo _ _ _ (by decide)]; exact hx3) (NP la b c d - 1) (by rw [cw_setC _ _ _ (by decide), upd_self]; exact nI_sub (b := 1) (by omega)) (by omega)) (fun v M2 hz => ?_)
        obtain ⟨rfl, rfl⟩ := hz
        refine g_aload_n (pc := 278) F dL_comes_278 rfl ?_
        refine g_iconst (pc := 279) (v := 0) F dL_comes_279 (by decide) ?_
        refine g_dup2 (pc := 280) F dL_comes_280 rfl rfl ?_
        refine g_gld (pc := 281) (j := 0) F rfl (by decide) dL_comes_281 ?_
        rw [show beg (setC S (cn S) (upd (wz (upd (upd (upd (upd (upd (cw S (cn S)) 0 (nI la)) 1 (nI a)) 2 (nI b)) 3 (nI c)) 4 (nI d)) 7) 5 (nI (NP la b c d) - 1))) (cn S) (cw (setC S (cn S) (upd (wz (upd (upd (upd (upd (upd (cw S (cn S)) 0 (nI la)) 1 (nI a)) 2 (nI b)) 3 (nI c)) 4 (nI d)) 7) 5 (nI (NP la b c d) - 1))) (cn S) 5 + 1) 0 = S 0 from (upd_ne _ _ (by decide)).trans ((setC_lo _ _ _ (by decide)).trans (setC_lo _ _ _ (by decide)))]
        refine g_iconst (pc := 282) (v := 1) F dL_comes_282 (by decide) ?_
        refine g_iadd (pc := 283) F dL_comes_283 ?_
        refine g_gst (pc := 284) (j := 0) F rfl (by decide) dL_comes_284 ?_
        rw [addC_law (hLI (-1)) hx3 hx hw3 (by rw [upd_self, Int32.sub_add_cancel])]
        refine g_aload_n (pc := 285) F dL_comes_285 rfl ?_
        refine g_iload (pc := 286) F dL_comes_286 rfl ?_
        refine g_iload (pc := 288) F dL_comes_288 rfl ?_
        refine g_iload (pc := 290) F dL_comes_290 rfl ?_
        refine g_iload (pc := 292) F dL_comes_292 rfl ?_
        refine g_iload (pc := 294) F dL_comes_294 rfl ?_
        refine g_callV (pc := 296) (rf2 := 4) (rl2 := 104) F cs_L_27 kd0 rfl (by decide) (by rfl) (by rfl) (Nat.le_of_ble_eq_true (by rfl)) (by decide) dL_comes_296 (w_clock _ g M S (addC S (nI la) (nI a) (nI b) (nI c) (nI d)) P pn hCA hAI _ _ _ _ _) (fun v M2 hz => ?_)
        obtain ⟨rfl, q1, q2, q3⟩ := hz
        have eM := WM_fr q3
        rw [eO]
        rw [eM]
        refine g_aload_n (pc := 299) F dL_comes_299 rfl ?_
        refine g_iconst (pc := 300) (v := 0) F dL_comes_300 (by decide) ?_
        refine g_gld (pc := 301) (j := 0) F rfl (by decide) dL_comes_301 ?_
        refine g_iconst (pc := 302) (v := 1) F dL_comes_302 (by decide) ?_
        refine g_isub (pc := 303) F dL_comes_303 ?_
        refine g_icmp_ne (pc := 304) (tgt := 311) F dL_comes_304 (by decide) (fun c304 => ?_) (fun c304 => ?_)
        · exact absurd (by rw [addC_lo _ _ _ _ _ _ (show 0 < 3 by decide), if_pos rfl, Int32.add_sub_cancel]) c304
        · refine g_iconst (pc := 307) (v := 1) F dL_comes_307 (by decide) ?_
          refine g_goto (pc := 308) (tgt := 312) F dL_comes_308 (by decide) ?_
          refine g_zret (pc := 312) F (by decide) r dL_comes_312 ?_
          rw [← eM]
          rw [eO] at q1 q2
          exact ⟨rfl, JP_ch rfl (by rw [hn.2]; exact nI_nneg (by omega)) q1 q2 q3 (GP_addC hi hn6 (hLI (-1)) hx3 hx hGP)⟩
      have L : ∀ (n i : Nat), i + n = 7 → G X g 13 (WM M (setC S (cn S) (wz (upd (upd (upd (upd (upd (cw S (cn S)) 0 (nI la)) 1 (nI a)) 2 (nI b)) 3 (nI c)) 4 (nI d)) i))) 230 [some (.ref (ad g 0)), some (.ref (ad g 224)), some (.ref (ad g 225)), some (.ref (ad g 226)), some (.int (nI y)), some (.int (nI la)), some (.int (nI mn)), some (.int (nI a)), some (.int (nI b)), some (.int (nI d)), some (.int (nI c)), some (.int (8 * nI (cn S))), some (.int (nI i))] [] := by
        intro n
        induction n with
        | zero =>
          intro i hin
          obtain rfl : i = 7 := by omega
          refine g_iload (pc := 230) F dL_comes_230 rfl ?_
          refine g_bipush (pc := 232) (v := 7) F dL_comes_232 (by decide) ?_
          refine g_icmp_ge (pc := 234) (tgt := 255) F dL_comes_234 (by decide) (fun c234 => ?_) (fun c234 => ?_)
          · exact T255
          · exact absurd (show (7 : Int32) ≤ nI 7 by decide) c234
        | succ n ih =>
          intro i hin
          refine g_iload (pc := 230) F dL_comes_230 rfl ?_
          refine g_bipush (pc := 232) (v := 7) F dL_comes_232 (by decide) ?_
          refine g_icmp_ge (pc := 234) (tgt := 255) F dL_comes_234 (by decide) (fun c234 => ?_) (fun c234 => ?_)
          · exact absurd c234 (nI_ge (b := 7) (by omega) (by decide))
          · refine g_aload_n (pc := 237) F dL_comes_237 rfl ?_
            refine g_bipush (pc := 238) (v := 7) F dL_comes_238 (by decide) ?_
            refine g_aload_n (pc := 240) F dL_comes_240 rfl ?_
            refine g_iconst (pc := 241) (v := 0) F dL_comes_241 (by decide) ?_
            refine g_gld (pc := 242) (j := 0) F rfl (by decide) dL_comes_242 ?_
            rw [setC_lo _ _ _ (show 0 < 4 by decide), hn.2]
            refine g_imul (pc := 243) F dL_comes_243 ?_
            refine g_iload (pc := 244) F dL_comes_244 rfl ?_
            refine g_iadd (pc := 246) F dL_comes_246 ?_
            refine g_iconst (pc := 247) (v := 0) F dL_comes_247 (by decide) ?_
            refine g_vstS (pc := 248) (i := (cn S)) (j := i) F (ix7 (cn S) i) (by omega) (by omega) dL_comes_248 ?_
            rw [wz_s]
            refine g_iinc (pc := 249) (v := nI (i + 1)) F dL_comes_249 rfl (nI_1 i) (by decide) rfl ?_
            refine g_goto (pc := 252) (tgt := 230) F dL_comes_252 (by decide) ?_
            exact G.sub [some (.ref (ad g 0)), some (.ref (ad g 224)), some (.ref (ad g 225)), some (.ref (ad g 226)), some (.int (nI y)), some (.int (nI la)), some (.int (nI mn)), some (.int (nI a)), some (.int (nI b)), some (.int (nI d)), some (.int (nI c)), some (.int (8 * nI (cn S))), some (.int (nI (i + 1)))] ⟨rfl, rfl, rfl, rfl, rfl, rfl, rfl, rfl, rfl, rfl, rfl, rfl, rfl, trivial⟩ (ih (i + 1) (by omega))
      refine G.sv (S' := setC S (cn S) (wz (upd (upd (upd (upd (upd (cw S (cn S)) 0 (nI la)) 1 (nI a)) 2 (nI b)) 3 (nI c)) 4 (nI d)) 0)) (by rw [wz_0]) ?_
      exact G.sub [some (.ref (ad g 0)), some (.ref (ad g 224)), some (.ref (ad g 225)), some (.ref (ad g 226)), some (.int (nI y)), some (.int (nI la)), some (.int (nI mn)), some (.int (nI a)), some (.int (nI b)), some (.int (nI d)), some (.int (nI c)), some (.int (8 * nI (cn S))), some (.int (nI 0))] ⟨rfl, rfl, rfl, rfl, rfl, rfl, rfl, rfl, rfl, rfl, rfl, rfl, rfl, trivial⟩ (L 7 0 rfl)
    · have eO : oClock S (nI la) (nI a) (nI b) (nI c) (nI d) = (-1000003, S) := (if_pos hcP).trans (if_pos c153)
      refine g_aload_n (pc := 156) F dL_comes_156 rfl ?_
      refine g_iload (pc := 157) F dL_comes_157 rfl ?_
      refine g_iload (pc := 159) F dL_comes_159 rfl ?_
      refine g_iload (pc := 161) F dL_comes_161 rfl ?_
      refine g_iload (pc := 163) F dL_comes_163 rfl ?_
      refine g_iload (pc := 165) F dL_comes_165 rfl ?_
      refine g_callV (pc := 167) (rf2 := 4) (rl2 := 104) F cs_L_27 kd0 rfl (by decide) (by rfl) (by rfl) (Nat.le_of_ble_eq_true (by rfl)) (by decide) dL_comes_167 (w_clock _ g M S S P pn hCA hAI _ _ _ _ _) (fun v M2 hz => ?_)
      obtain ⟨rfl, q1, q2, q3⟩ := hz
      rw [eO]
      refine g_ldc (pc := 170) F wk_L_33 dL_comes_170 ?_
      refine g_icmp_ne (pc := 172) (tgt := 179) F dL_comes_172 (by decide) (fun c172 => ?_) (fun c172 => ?_)
      · exact absurd rfl c172
      · refine g_iconst (pc := 175) (v := 1) F dL_comes_175 (by decide) ?_
        refine g_goto (pc := 176) (tgt := 180) F dL_comes_176 (by decide) ?_
        refine g_zret (pc := 180) F (by decide) r dL_comes_180 ?_
        rw [eO] at q1
        exact ⟨rfl, JP_no (show (-1000003 : Int32) < 0 by decide) q1 hAI q3 hGP⟩
  have T146 : ∀ la mn a b d c : Nat, (la ≤ 2) → (1 ≤ mn) → (mn ≤ 4) → (1 ≤ a) → (a ≤ 50) → (b ≤ 50) → (1 ≤ b ↔ la = 2 ∨ 1 < mn) → (d ≤ 50) → (1 ≤ d ↔ la < 2 ∧ 3 < mn) → (c ≤ 50) → (1 ≤ c ↔ la = 2 ∨ 2 < mn) → G X g 13 (WM M S) 146 [some (.ref (ad g 0)), some (.ref (ad g 224)), some (.ref (ad g 225)), some (.ref (ad g 226)), some (.int (nI y)), some (.int (nI la)), some (.int (nI mn)), some (.int (nI a)), some (.int (nI b)), some (.int (nI d)), none, none, none] [.int (nI c)] := by
    intro la mn a b d c h0 m1 m2 a1 a2 b1 b2 d1 d2 c1 c2
    refine g_istore (pc := 146) F dL_comes_146 (by decide) rfl ?_
    exact T148 la mn a b c d h0 m1 m2 a1 a2 b1 b2 c1 c2 d1 d2
  have T106 : ∀ la mn a b d : Nat, (la ≤ 2) → (1 ≤ mn) → (mn ≤ 4) → (1 ≤ a) → (a ≤ 50) → (b ≤ 50) → (1 ≤ b ↔ la = 2 ∨ 1 < mn) → (d ≤ 50) → (1 ≤ d ↔ la < 2 ∧ 3 < mn) → G X g 13 (WM M S) 106 [some (.ref (ad g 0)), some (.ref (ad g 224)), some (.ref (ad g 225)), some (.ref (ad g 226)), some (.int (nI y)), some (.int (nI la)), some (.int (nI mn)), some (.int (nI a)), some (.int (nI b)), none, none, none, none] [.int (nI d)] := by
    intro la mn a b d h0 m1 m2 a1 a2 b1 b2 d1 d2
    refine g_istore (pc := 106) F dL_comes_106 (by decide) rfl ?_
    refine g_iload (pc := 108) F dL_comes_108 rfl ?_
    refine g_iconst (pc := 110) (v := 2) F dL_comes_110 (by decide) ?_
    refine g_icmp_eq (pc := 111) (tgt := 120) F dL_comes_111 (by decide) (fun c111 => ?_) (fun c111 => ?_)
    · have l2 : la = 2 := (nI_inj (b := 2) (by omega) (by decide)).mp c111
      refine g_iconst (pc := 120) (v := 1) F dL_comes_120 (by decide) ?_
      refine g_iload (pc := 121) F dL_comes_121 rfl ?_
      refine g_iconst (pc := 123) (v := 5) F dL_comes_123 (by decide) ?_
      refine g_idivN (pc := 124) (a := y) (b := 5) F rfl rfl (by omega) (by decide) (by decide) dL_comes_124 ?_
      refine g_iload (pc := 125) F dL_comes_125 rfl ?_
      refine g_bipush (pc := 127) (v := 6) F dL_comes_127 (by decide) ?_
      refine g_iremN (pc := 129) (a := y) (b := 6) F rfl rfl (by omega) (by decide) (by decide) dL_comes_129 ?_
      refine g_if_ne (pc := 130) (tgt := 138) F dL_comes_130 (by decide) (fun c130 => ?_) (fun c130 => ?_)
      · refine g_bipush (pc := 138) (v := 12) F dL_comes_138 (by decide) ?_
        refine g_iremN (pc := 140) (a := (y / 5)) (b := 12) F rfl rfl (by omega) (by decide) (by decide) dL_comes_140 ?_
        refine g_iaddN (pc := 141) (a := 1) (b := (y / 5 % 12)) F rfl rfl dL_comes_141 ?_
        refine g_goto (pc := 142) (tgt := 146) F dL_comes_142 (by decide) ?_
        exact T146 la mn a b d (1 + y / 5 % 12) h0 m1 m2 a1 a2 b1 b2 d1 d2 (by omega) (by omega)
      · refine g_bipush (pc := 133) (v := 50) F dL_comes_133 (by decide) ?_
        refine g_goto (pc := 135) (tgt := 140) F dL_comes_135 (by decide) ?_
        refine g_iremN (pc := 140) (a := (y / 5)) (b := 50) F rfl rfl (by omega) (by decide) (by decide) dL_comes_140 ?_
        refine g_iaddN (pc := 141) (a := 1) (b := (y / 5 % 50)) F rfl rfl dL_comes_141 ?_
        refine g_goto (pc := 142) (tgt := 146) F dL_comes_142 (by decide) ?_
        exact T146 la mn a b d (1 + y / 5 % 50) h0 m1 m2 a1 a2 b1 b2 d1 d2 (by omega) (by omega)
    · have l2 : la ≠ 2 := fun e => c111 (by rw [e]; rfl)
      refine g_iload (pc := 114) F dL_comes_114 rfl ?_
      refine g_iconst (pc := 116) (v := 2) F dL_comes_116 (by decide) ?_
      refine g_icmp_le (pc := 117) (tgt := 145) F dL_comes_117 (by decide) (fun c117 => ?_) (fun c117 => ?_)
      · have l3 : mn ≤ 2 := (nI_leI (b := 2) (by omega) (by decide)).mp c117
        refine g_iconst (pc := 145) (v := 0) F dL_comes_145 (by decide) ?_
        exact T146 la mn a b d 0 h0 m1 m2 a1 a2 b1 b2 d1 d2 (by omega) (by omega)
      · have l3 : ¬ mn ≤ 2 := fun e => c117 ((nI_leI (b := 2) (by omega) (by decide)).mpr e)
        refine g_iconst (pc := 120) (v := 1) F dL_comes_120 (by decide) ?_
        refine g_iload (pc := 121) F dL_comes_121 rfl ?_
        refine g_iconst (pc := 123) (v := 5) F dL_comes_123 (by decide) ?_
        refine g_idivN (pc := 124) (a := y) (b := 5) F rfl rfl (by omega) (by decide) (by decide) dL_comes_124 ?_
        refine g_iload (pc := 125) F dL_comes_125 rfl ?_
        refine g_bipush (pc := 127) (v := 6) F dL_comes_127 (by decide) ?_
        refine g_iremN (pc := 129) (a := y) (b := 6) F rfl rfl (by omega) (by decide) (by decide) dL_comes_129 ?_
        refine g_if_ne (pc := 130) (tgt := 138) F dL_comes_130 (by decide) (fun c130 => ?_) (fun c130 => ?_)
        · refine g_bipush (pc := 138) (v := 12) F dL_comes_138 (by decide) ?_
          refine g_iremN (pc := 140) (a := (y / 5)) (b := 12) F rfl rfl (by omega) (by decide) (by decide) dL_comes_140 ?_
          refine g_iaddN (pc := 141) (a := 1) (b := (y / 5 % 12)) F rfl rfl dL_comes_141 ?_
          refine g_goto (pc := 142) (tgt := 146) F dL_comes_142 (by decide) ?_
          exact T146 la mn a b d (1 + y / 5 % 12) h0 m1 m2 a1 a2 b1 b2 d1 d2 (by omega) (by omega)
        · refine g_bipush (pc := 133) (v := 50) F dL_comes_133 (by decide) ?_
          refine g_goto (pc := 135) (tgt := 140) F dL_comes_135 (by decide) ?_
          refine g_iremN (pc := 140) (a := (y / 5)) (b := 50) F rfl rfl (by omega) (by decide) (by decide) dL_comes_140 ?_
          refine g_iaddN (pc := 141) (a := 1) (b := (y / 5 % 50)) F rfl rfl dL_comes_141 ?_
          refine g_goto (pc := 142) (tgt := 146) F dL_comes_142 (by decide) ?_
          exact T146 la mn a b d (1 + y / 5 % 50) h0 m1 m2 a1 a2 b1 b2 d1 d2 (by omega) (by omega)
  have T78 : ∀ la mn a b : Nat, (la ≤ 2) → (1 ≤ mn) → (mn ≤ 4) → (1 ≤ a) → (a ≤ 50) → (b ≤ 50) → (1 ≤ b ↔ la = 2 ∨ 1 < mn) → G X g 13 (WM M S) 78 [some (.ref (ad g 0)), some (.ref (ad g 224)), some (.ref (ad g 225)), some (.ref (ad g 226)), some (.int (nI y)), some (.int (nI la)), some (.int (nI mn)), some (.int (nI a)), none, none, none, none, none] [.int (nI b)] := by
    intro la mn a b h0 m1 m2 a1 a2 b1 b2
    refine g_istore (pc := 78) F dL_comes_78 (by decide) rfl ?_
    refine g_iload (pc := 80) F dL_comes_80 rfl ?_
    refine g_iconst (pc := 82) (v := 2) F dL_comes_82 (by decide) ?_
    refine g_icmp_ge (pc := 83) (tgt := 105) F dL_comes_83 (by decide) (fun c83 => ?_) (fun c83 => ?_)
    · have l2 : ¬ la < 2 := fun e => nI_ge (b := 2) e (by decide) c83
      refine g_iconst (pc := 105) (v := 0) F dL_comes_105 (by decide) ?_
      exact T106 la mn a b 0 h0 m1 m2 a1 a2 b1 b2 (by omega) (by omega)
    · have l2 : la < 2 := Classical.byContradiction fun e => c83 (nI_le (a := 2) (by omega) (by omega))
      refine g_iload (pc := 86) F dL_comes_86 rfl ?_
      refine g_iconst (pc := 88) (v := 3) F dL_comes_88 (by decide) ?_
      refine g_icmp_le (pc := 89) (tgt := 105) F dL_comes_89 (by decide) (fun c89 => ?_) (fun c89 => ?_)
      · have l3 : mn ≤ 3 := (nI_leI (b := 3) (by omega) (by decide)).mp c89
        refine g_iconst (pc := 105) (v := 0) F dL_comes_105 (by decide) ?_
        exact T106 la mn a b 0 h0 m1 m2 a1 a2 b1 b2 (by omega) (by omega)
      · have l3 : ¬ mn ≤ 3 := fun e => c89 ((nI_leI (b := 3) (by omega) (by decide)).mpr e)
        refine g_iconst (pc := 92) (v := 1) F dL_comes_92 (by decide) ?_
        refine g_iload (pc := 93) F dL_comes_93 rfl ?_
        refine g_bipush (pc := 95) (v := 11) F dL_comes_95 (by decide) ?_
        refine g_idivN (pc := 97) (a := y) (b := 11) F rfl rfl (by omega) (by decide) (by decide) dL_comes_97 ?_
        refine g_bipush (pc := 98) (v := 20) F dL_comes_98 (by decide) ?_
        refine g_iremN (pc := 100) (a := (y / 11)) (b := 20) F rfl rfl (by omega) (by decide) (by decide) dL_comes_100 ?_
        refine g_iaddN (pc := 101) (a := 1) (b := (y / 11 % 20)) F rfl rfl dL_comes_101 ?_
        refine g_goto (pc := 102) (tgt := 106) F dL_comes_102 (by decide) ?_
        exact T106 la mn a b (1 + y / 11 % 20) h0 m1 m2 a1 a2 b1 b2 (by omega) (by omega)
  have T38 : ∀ la mn a : Nat, (la ≤ 2) → (1 ≤ mn) → (mn ≤ 4) → (1 ≤ a) → (a ≤ 50) → G X g 13 (WM M S) 38 [some (.ref (ad g 0)), some (.ref (ad g 224)), some (.ref (ad g 225)), some (.ref (ad g 226)), some (.int (nI y)), some (.int (nI la)), some (.int (nI mn)), none, none, none, none, none, none] [.int (nI a)] := by
    intro la mn a h0 m1 m2 a1 a2
    refine g_istore (pc := 38) F dL_comes_38 (by decide) rfl ?_
    refine g_iload (pc := 40) F dL_comes_40 rfl ?_
    refine g_iconst (pc := 42) (v := 2) F dL_comes_42 (by decide) ?_
    refine g_icmp_eq (pc := 43) (tgt := 52) F dL_comes_43 (by decide) (fun c43 => ?_) (fun c43 => ?_)
    · have l2 : la = 2 := (nI_inj (b := 2) (by omega) (by decide)).mp c43
      refine g_iconst (pc := 52) (v := 1) F dL_comes_52 (by decide) ?_
      refine g_iload (pc := 53) F dL_comes_53 rfl ?_
      refine g_bipush (pc := 55) (v := 7) F dL_comes_55 (by decide) ?_
      refine g_idivN (pc := 57) (a := y) (b := 7) F rfl rfl (by omega) (by decide) (by decide) dL_comes_57 ?_
      refine g_iload (pc := 58) F dL_comes_58 rfl ?_
      refine g_iconst (pc := 60) (v := 4) F dL_comes_60 (by decide) ?_
      refine g_iremN (pc := 61) (a := y) (b := 4) F rfl rfl (by omega) (by decide) (by decide) dL_comes_61 ?_
      refine g_if_ne (pc := 62) (tgt := 70) F dL_comes_62 (by decide) (fun c62 => ?_) (fun c62 => ?_)
      · refine g_bipush (pc := 70) (v := 6) F dL_comes_70 (by decide) ?_
        refine g_iremN (pc := 72) (a := (y / 7)) (b := 6) F rfl rfl (by omega) (by decide) (by decide) dL_comes_72 ?_
        refine g_iaddN (pc := 73) (a := 1) (b := (y / 7 % 6)) F rfl rfl dL_comes_73 ?_
        refine g_goto (pc := 74) (tgt := 78) F dL_comes_74 (by decide) ?_
        exact T78 la mn a (1 + y / 7 % 6) h0 m1 m2 a1 a2 (by omega) (by omega)
      · refine g_bipush (pc := 65) (v := 50) F dL_comes_65 (by decide) ?_
        refine g_goto (pc := 67) (tgt := 72) F dL_comes_67 (by decide) ?_
        refine g_iremN (pc := 72) (a := (y / 7)) (b := 50) F rfl rfl (by omega) (by decide) (by decide) dL_comes_72 ?_
        refine g_iaddN (pc := 73) (a := 1) (b := (y / 7 % 50)) F rfl rfl dL_comes_73 ?_
        refine g_goto (pc := 74) (tgt := 78) F dL_comes_74 (by decide) ?_
        exact T78 la mn a (1 + y / 7 % 50) h0 m1 m2 a1 a2 (by omega) (by omega)
    · have l2 : la ≠ 2 := fun e => c43 (by rw [e]; rfl)
      refine g_iload (pc := 46) F dL_comes_46 rfl ?_
      refine g_iconst (pc := 48) (v := 1) F dL_comes_48 (by decide) ?_
      refine g_icmp_le (pc := 49) (tgt := 77) F dL_comes_49 (by decide) (fun c49 => ?_) (fun c49 => ?_)
      · have l3 : mn ≤ 1 := (nI_leI (b := 1) (by omega) (by decide)).mp c49
        refine g_iconst (pc := 77) (v := 0) F dL_comes_77 (by decide) ?_
        exact T78 la mn a 0 h0 m1 m2 a1 a2 (by omega) (by omega)
      · have l3 : ¬ mn ≤ 1 := fun e => c49 ((nI_leI (b := 1) (by omega) (by decide)).mpr e)
        refine g_iconst (pc := 52) (v := 1) F dL_comes_52 (by decide) ?_
        refine g_iload (pc := 53) F dL_comes_53 rfl ?_
        refine g_bipush (pc := 55) (v := 7) F dL_comes_55 (by decide) ?_
        refine g_idivN (pc := 57) (a := y) (b := 7) F rfl rfl (by omega) (by decide) (by decide) dL_comes_57 ?_
        refine g_iload (pc := 58) F dL_comes_58 rfl ?_
        refine g_iconst (pc := 60) (v := 4) F dL_comes_60 (by decide) ?_
        refine g_iremN (pc := 61) (a := y) (b := 4) F rfl rfl (by omega) (by decide) (by decide) dL_comes_61 ?_
        refine g_if_ne (pc := 62) (tgt := 70) F dL_comes_62 (by decide) (fun c62 => ?_) (fun c62 => ?_)
        · refine g_bipush (pc := 70) (v := 6) F dL_comes_70 (by decide) ?_
          refine g_iremN (pc := 72) (a := (y / 7)) (b := 6) F rfl rfl (by omega) (by decide) (by decide) dL_comes_72 ?_
          refine g_iaddN (pc := 73) (a := 1) (b := (y / 7 % 6)) F rfl rfl dL_comes_73 ?_
          refine g_goto (pc := 74) (tgt := 78) F dL_comes_74 (by decide) ?_
          exact T78 la mn a (1 + y / 7 % 6) h0 m1 m2 a1 a2 (by omega) (by omega)
        · refine g_bipush (pc := 65) (v := 50) F dL_comes_65 (by decide) ?_
          refine g_goto (pc := 67) (tgt := 72) F dL_comes_67 (by decide) ?_
          refine g_iremN (pc := 72) (a := (y / 7)) (b := 50) F rfl rfl (by omega) (by decide) (by decide) dL_comes_72 ?_
          refine g_iaddN (pc := 73) (a := 1) (b := (y / 7 % 50)) F rfl rfl dL_comes_73 ?_
          refine g_goto (pc := 74) (tgt := 78) F dL_comes_74 (by decide) ?_
          exact T78 la mn a (1 + y / 7 % 50) h0 m1 m2 a1 a2 (by omega) (by omega)
  have T16 : ∀ la mn : Nat, (la ≤ 2) → (1 ≤ mn) → (mn ≤ 4) → G X g 13 (WM M S) 16 [some (.ref (ad g 0)), some (.ref (ad g 224)), some (.ref (ad g 225)), some (.ref (ad g 226)), some (.int (nI y)), some (.int (nI la)), some (.int (nI mn)), none, none, none, none, none, none] [] := by
    intro la mn h0 m1 m2
    refine g_iconst (pc := 16) (v := 1) F dL_comes_16 (by decide) ?_
    refine g_iload (pc := 17) F dL_comes_17 rfl ?_
    refine g_bipush (pc := 19) (v := 12) F dL_comes_19 (by decide) ?_
    refine g_idivN (pc := 21) (a := y) (b := 12) F rfl rfl (by omega) (by decide) (by decide) dL_comes_21 ?_
    refine g_iload (pc := 22) F dL_comes_22 rfl ?_
    refine g_iconst (pc := 24) (v := 5) F dL_comes_24 (by decide) ?_
    refine g_iremN (pc := 25) (a := y) (b := 5) F rfl rfl (by omega) (by decide) (by decide) dL_comes_25 ?_
    refine g_if_ne (pc := 26) (tgt := 34) F dL_comes_26 (by decide) (fun c26 => ?_) (fun c26 => ?_)
    · refine g_bipush (pc := 34) (v := 9) F dL_comes_34 (by decide) ?_
      refine g_iremN (pc := 36) (a := (y / 12)) (b := 9) F rfl rfl (by omega) (by decide) (by decide) dL_comes_36 ?_
      refine g_iaddN (pc := 37) (a := 1) (b := (y / 12 % 9)) F rfl rfl dL_comes_37 ?_
      exact T38 la mn (1 + y / 12 % 9) h0 m1 m2 (by omega) (by omega)
    · refine g_bipush (pc := 29) (v := 50) F dL_comes_29 (by decide) ?_
      refine g_goto (pc := 31) (tgt := 36) F dL_comes_31 (by decide) ?_
      refine g_iremN (pc := 36) (a := (y / 12)) (b := 50) F rfl rfl (by omega) (by decide) (by decide) dL_comes_36 ?_
      refine g_iaddN (pc := 37) (a := 1) (b := (y / 12 % 50)) F rfl rfl dL_comes_37 ?_
      exact T38 la mn (1 + y / 12 % 50) h0 m1 m2 (by omega) (by omega)
  refine g_iload (pc := 0) F dL_comes_0 rfl ?_
  refine g_iconst (pc := 2) (v := 3) F dL_comes_2 (by decide) ?_
  refine g_iremN (pc := 3) (a := y) (b := 3) F rfl rfl (by omega) (by decide) (by decide) dL_comes_3 ?_
  refine g_istore (pc := 4) F dL_comes_4 (by decide) rfl ?_
  refine g_iconst (pc := 6) (v := 1) F dL_comes_6 (by decide) ?_
  refine g_iload (pc := 7) F dL_comes_7 rfl ?_
  refine g_iconst (pc := 9) (v := 3) F dL_comes_9 (by decide) ?_
  refine g_idivN (pc := 10) (a := y) (b := 3) F rfl rfl (by omega) (by decide) (by decide) dL_comes_10 ?_
  refine g_iconst (pc := 11) (v := 4) F dL_comes_11 (by decide) ?_
  refine g_iremN (pc := 12) (a := (y / 3)) (b := 4) F rfl rfl (by omega) (by decide) (by decide) dL_comes_12 ?_
  refine g_iaddN (pc := 13) (a := 1) (b := (y / 3 % 4)) F rfl rfl dL_comes_13 ?_
  refine g_istore (pc := 14) F dL_comes_14 (by decide) rfl ?_
  exact T16 (y % 3) (1 + y / 3 % 4) (by omega) (by omega) (by omega)
