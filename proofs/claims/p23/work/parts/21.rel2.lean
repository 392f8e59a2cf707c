/-! THE OBJECT: its state (hall, history, text), what the class's cells say of it -/
/-- hall, the states kept (oldest first) and how many, the text and its length -/
abbrev AS : Type := SV × (Nat → SV) × Nat × (Nat → Int32) × Nat
def CAs (M : Mem) (A : AS) (sg : Nat → Nat) : Prop := HR M 1 A.1 ∧ TR M A.2.2.2.1 A.2.2.2.2 ∧ A.2.2.1 ≤ 4 ∧ M 63 1 = nI A.2.2.1 ∧ slotsR M sg ∧ ∀ k, k < A.2.2.1 → HR M (slH sg k) (A.2.1 k)
def CA (M : Mem) (A : AS) : Prop := ∃ sg, CAs M A sg
def AI (A : AS) : Prop := InvE A.1 ∧ (∀ k, k < A.2.2.1 → InvE (A.2.1 k)) ∧ TI A.2.2.2.1 A.2.2.2.2
def pushP (P : Nat → SV) (pn : Nat) (S : SV) : (Nat → SV) × Nat := if pn < 4 then (fun k => if k = pn then S else P k, pn + 1) else (fun k => if k < 3 then P (k + 1) else S, 4)
/-- a call that answered r: nothing, if that is an error; else the state before is kept -/
def apA (A : AS) (r : Int32 × SV) : AS := if r.1 < 0 then A else (r.2, (pushP A.2.1 A.2.2.1 A.1).1, (pushP A.2.1 A.2.2.1 A.1).2, A.2.2.2.1, A.2.2.2.2)
/-- the check's cells stay -/
def frC (M M2 : Mem) : Prop := ∀ a, 224 ≤ a → M2 a = M a
theorem frC.refl (M : Mem) : frC M M := fun _ _ => rfl
theorem frC.trans {M M1 M2 : Mem} (h : frC M M1) (k : frC M1 M2) : frC M M2 := fun a ha => (k a ha).trans (h a ha)
theorem HR_rowE {M M2 : Mem} {h : Nat} {S : SV} (hr : HR M h S) (hi : InvE S) (e : ∀ a, h ≤ a → a < h + 31 → M2 a = M a) : HR M2 h S := by
  obtain ⟨t, -, hv⟩ := hi
  exact HR_row hr hv.cn_le.1 hv.gn_le.1 e
theorem slH_lt {M : Mem} {sg : Nat → Nat} (hs : slotsR M sg) {k : Nat} (hk : k < 5) : slH sg k + 31 ≤ 220 := by
  have := (hs.1 k hk).2
  show 65 + 31 * sg k + 31 ≤ 220
  omega
theorem slH_apart {M : Mem} {sg : Nat → Nat} (hs : slotsR M sg) {i j : Nat} (hi : i < 5) (hj : j < 5) (hij : i ≠ j) : slH sg i + 31 ≤ slH sg j ∨ slH sg j + 31 ≤ slH sg i := by
  have : sg i ≠ sg j := fun e => hij (hs.2 i j hi hj e)
  show 65 + 31 * sg i + 31 ≤ 65 + 31 * sg j ∨ 65 + 31 * sg j + 31 ≤ 65 + 31 * sg i
  omega
theorem CAs_frame {M M2 : Mem} {A : AS} {sg : Nat → Nat} (h : CAs M A sg) (hi : AI A) (e : ∀ a, ((1 ≤ a ∧ a < 32) ∨ (63 ≤ a ∧ a < 222)) → M2 a = M a) : CAs M2 A sg := by
  obtain ⟨h1, h2, h3, h4, h5, h6⟩ := h
  refine ⟨HR_rowE h1 hi.1 (fun a a1 a2 => e a (Or.inl ⟨a1, by omega⟩)), h2.row (e 220 (by omega)) (e 221 (by omega)), h3, by rw [e 63 (by omega)]; exact h4, ⟨fun k hk => by rw [e 64 (by omega)]; exact h5.1 k hk, h5.2⟩, fun k hk => HR_rowE (h6 k hk) (hi.2.1 k hk) (fun a a1 a2 => ?_)⟩
  have g1 := slH_ge sg k
  have g2 := slH_lt h5 (k := k) (by omega)
  exact e a (Or.inr ⟨by omega, by omega⟩)
theorem CA_frame {M M2 : Mem} {A : AS} (h : CA M A) (hi : AI A) (e : ∀ a, ((1 ≤ a ∧ a < 32) ∨ (63 ≤ a ∧ a < 222)) → M2 a = M a) : CA M2 A := by
  obtain ⟨sg, hs⟩ := h
  exact ⟨sg, CAs_frame hs hi e⟩
/-- noted, done, settled -/
theorem CA_apply {M M1 M2 M3 : Mem} {A : AS} {sg : Nat → Nat} {r : Int32 × SV} (h : CAs M A sg) (hi : AI A) (n1 : HR M1 (slH sg A.2.2.1) A.1) (f1 : frH M M1 (slH sg A.2.2.1)) (n2 : HR M2 1 r.2) (f2 : frH M1 M2 1) (ok : okR A.1 r)
    (n3 : (r.1 < 0 ∧ M3 = M2) ∨ (¬ r.1 < 0 ∧ M3 = keepM M2 A.2.2.1)) : CA M3 (apA A r) ∧ AI (apA A r) ∧ frC M M3 := by
  obtain ⟨S, P, pn, tx, tn⟩ := A
  obtain ⟨h1, h2, h3, h4, h5, h6⟩ := h
  dsimp only at *
  have g0 := slH_ge sg pn
  have g1 := slH_lt h5 (k := pn) (by omega)
  have f3 : ∀ a, (32 ≤ a ∧ (a < slH sg pn ∨ slH sg pn + 31 ≤ a)) → M2 a = M a := fun a ha => (f2 a (by omega)).trans (f1 a ha.2)
  have s2 : slotsR M2 sg := ⟨fun k hk => by rw [f3 64 (by omega)]; exact h5.1 k hk, h5.2⟩
  have t2 : TR M2 tx tn := h2.row (f3 220 (by omega)) (f3 221 (by omega))
  have k2 : M2 63 1 = nI pn := by rw [f3 63 (by omega)]; exact h4
  have p2 : ∀ k, k < pn → HR M2 (slH sg k) (P k) := by
    intro k hk
    have q0 := slH_ge sg k
    have q1 := slH_apart h5 (i := k) (j := pn) (by omega) (by omega) (by omega)
    exact HR_rowE (h6 k hk) (hi.2.1 k hk) (fun a a1 a2 => f3 a (by omega))
  have pS : HR M2 (slH sg pn) S := HR_rowE n1 hi.1 (fun a a1 a2 => f2 a (by omega))
  have fc : frC M M2 := fun a ha => f3 a (by omega)
  rcases n3 with ⟨hneg, rfl⟩ | ⟨hpos, rfl⟩
  · have hS : r.2 = S := ok.2.elim (fun q => absurd hneg q) (fun q => q.2)
    have e : apA (S, P, pn, tx, tn) r = (S, P, pn, tx, tn) := if_pos hneg
    rw [e]
    rw [hS] at n2
    exact ⟨⟨sg, n2, t2, h3, k2, s2, p2⟩, hi, fc⟩
  · have e : apA (S, P, pn, tx, tn) r = (r.2, (pushP P pn S).1, (pushP P pn S).2, tx, tn) := if_neg hpos
    rw [e]
    by_cases h4n : pn < 4
    · have ep : pushP P pn S = (fun k => if k = pn then S else P k, pn + 1) := if_pos h4n
      have ek : keepM M2 pn = upd2 M2 63 1 (nI (pn + 1)) := if_pos h4n
      rw [ep, ek]
      have o : ∀ a, a ≠ 63 → upd2 M2 63 1 (nI (pn + 1)) a = M2 a := fun a ha => upd2_k _ _ _ ha
      refine ⟨⟨sg, HR_rowE n2 ok.1 (fun a a1 a2 => o a (by omega)), t2.row (o 220 (by decide)) (o 221 (by decide)), by show pn + 1 ≤ 4; omega, upd2_self _ _ _ _, ⟨fun k hk => by rw [o 64 (by decide)]; exact s2.1 k hk, s2.2⟩, fun k hk => ?_⟩, ⟨ok.1, fun k hk => ?_, hi.2.2⟩, fc.trans (fun a ha => o a (by omega))⟩
      · have hk' : k < pn + 1 := hk
        have q0 := slH_ge sg k
        show HR _ (slH sg k) (if k = pn then S else P k)
        by_cases hkp : k = pn
        · rw [if_pos hkp, hkp]
          exact HR_rowE pS hi.1 (fun a a1 a2 => o a (by omega))
        · rw [if_neg hkp]
          exact HR_rowE (p2 k (by omega)) (hi.2.1 k (show k < pn by omega)) (fun a a1 a2 => o a (by omega))
      · have hk' : k < pn + 1 := hk
        show InvE (if k = pn then S else P k)
        by_cases hkp : k = pn
        · rw [if_pos hkp]; exact hi.1
        · rw [if_neg hkp]; exact hi.2.1 k (show k < pn by omega)
    · have hp4 : pn = 4 := by omega
      subst hp4
      have ep : pushP P 4 S = (fun k => if k < 3 then P (k + 1) else S, 4) := if_neg h4n
      have ek : keepM M2 4 = updr (upd2 M2 63 1 (nI 4)) 64 (fun k => if k < 4 then M2 64 (k + 1) else if k = 4 then M2 64 0 else M2 64 k) := if_neg h4n
      rw [ep, ek]
      have o : ∀ a, a ≠ 63 → a ≠ 64 → updr (upd2 M2 63 1 (nI 4)) 64 (fun k => if k < 4 then M2 64 (k + 1) else if k = 4 then M2 64 0 else M2 64 k) a = M2 a := fun a h63 h64 => (updr_ne _ _ h64).trans (upd2_k _ _ _ h63)
      refine ⟨⟨fun k => if k < 4 then sg (k + 1) else sg 0, HR_rowE n2 ok.1 (fun a a1 a2 => o a (by omega) (by omega)), t2.row (o 220 (by decide) (by decide)) (o 221 (by decide) (by decide)), Nat.le_refl 4, ?_, ⟨fun k hk => ?_, fun i j hi' hj' hij => ?_⟩, fun k hk => ?_⟩, ⟨ok.1, fun k hk => ?_, hi.2.2⟩, fc.trans (fun a ha => o a (by omega) (by omega))⟩
      · rw [updr_ne _ _ (by decide), upd2_self]
      · rw [updr_self]
        show (if k < 4 then M2 64 (k + 1) else if k = 4 then M2 64 0 else M2 64 k) = nI (if k < 4 then sg (k + 1) else sg 0) ∧ (if k < 4 then sg (k + 1) else sg 0) < 5
        by_cases hk4 : k < 4
        · rw [if_pos hk4, if_pos hk4]
          exact s2.1 (k + 1) (by omega)
        · rw [if_neg hk4, if_neg hk4, if_pos (by omega)]
          exact s2.1 0 (by decide)
      · dsimp only at hij
        by_cases a1 : i < 4 <;> by_cases a2 : j < 4
        · rw [if_pos a1, if_pos a2] at hij
          have := s2.2 (i + 1) (j + 1) (by omega) (by omega) hij
          omega
        · rw [if_pos a1, if_neg a2] at hij
          have := s2.2 (i + 1) 0 (by omega) (by omega) hij
          omega
        · rw [if_neg a1, if_pos a2] at hij
          have := s2.2 0 (j + 1) (by omega) (by omega) hij
          omega
        · omega
      · have hk' : k < 4 := hk
        have e1 : slH (fun k => if k < 4 then sg (k + 1) else sg 0) k = slH sg (k + 1) := by
          show 65 + 31 * (if k < 4 then sg (k + 1) else sg 0) = 65 + 31 * sg (k + 1)
          rw [if_pos hk']
        rw [e1]
        have q0 := slH_ge sg (k + 1)
        show HR _ _ (if k < 3 then P (k + 1) else S)
        by_cases hk3 : k < 3
        · rw [if_pos hk3]
          exact HR_rowE (p2 (k + 1) (by omega)) (hi.2.1 (k + 1) (show k + 1 < 4 by omega)) (fun a a1 a2 => o a (by omega) (by omega))
        · rw [if_neg hk3]
          have : k + 1 = 4 := by omega
          rw [this] at q0 ⊢
          exact HR_rowE pS hi.1 (fun a a1 a2 => o a (by omega) (by omega))
      · have hk' : k < 4 := hk
        show InvE (if k < 3 then P (k + 1) else S)
        by_cases hk3 : k < 3
        · rw [if_pos hk3]; exact hi.2.1 (k + 1) (show k + 1 < 4 by omega)
        · rw [if_neg hk3]; exact hi.1
