/-! THE CLASS AND THE CHECK BESIDE EACH OTHER -/
/-- alike where it counts -/
def simA (A A' : AS) : Prop := (∀ k, k < 110 → A'.1 k = A.1 k) ∧ A'.2.2.1 = A.2.2.1 ∧ (∀ p, p < A.2.2.1 → ∀ k, k < 110 → A'.2.1 p k = A.2.1 p k) ∧ A'.2.2.2.2 = A.2.2.2.2 ∧ ∀ j, j < A.2.2.2.2 → A'.2.2.2.1 j = A.2.2.2.1 j
theorem simA.refl (A : AS) : simA A A := ⟨fun _ _ => rfl, rfl, fun _ _ _ _ => rfl, rfl, fun _ _ => rfl⟩
theorem Inv_congr {S S' : SV} {t : Nat} (h : Inv S t) (e : ∀ k, k < 110 → S' k = S k) : Inv S' t := by
  have hn := h.cn_le.1
  have hm := h.gn_le.1
  obtain ⟨h1, h2, h3, h4, h5, h6, h7⟩ := h
  have ec : cn S' = cn S := by
    unfold cn
    rw [e 0 (by decide)]
  have eg : gn S' = gn S := by
    unfold gn
    rw [e 1 (by decide)]
  refine ⟨by rw [e 0 (by decide)]; exact h1, by rw [e 1 (by decide)]; exact h2, by rw [e 2 (by decide)]; exact h3, h4, by rw [e 3 (by decide)]; exact h5, ?_, ?_⟩
  · rw [ec]
    intro i hi
    exact CI_congr (h6 i hi) (fun j hj => e _ (by omega))
  · rw [eg]
    intro i hi
    exact GI_congr (h7 i hi) (fun j hj => e _ (by omega))
theorem InvE_congr {S S' : SV} (h : InvE S) (e : ∀ k, k < 110 → S' k = S k) : InvE S' := by
  obtain ⟨t, ht, hi⟩ := h
  exact ⟨t, ht, Inv_congr hi e⟩
theorem HR_congrE {M : Mem} {h : Nat} {S S' : SV} (hr : HR M h S) (hi : InvE S) (e : ∀ k, k < 110 → S' k = S k) : HR M h S' := by
  obtain ⟨t, -, hv⟩ := hi
  exact HR_congr hr hv.cn_le.1 hv.gn_le.1 e
theorem AI_congr {A A' : AS} (h : AI A) (e : simA A A') : AI A' := by
  obtain ⟨h1, h2, h3⟩ := h
  obtain ⟨e1, e2, e3, e4, e5⟩ := e
  refine ⟨InvE_congr h1 e1, fun k hk => ?_, ?_⟩
  · rw [e2] at hk
    exact InvE_congr (h2 k hk) (e3 k hk)
  · intro j hj
    rw [e4] at hj
    obtain ⟨c, c1, c2, c3⟩ := h3 j hj
    exact ⟨c, by rw [e5 j hj]; exact c1, c2, c3⟩
theorem CA_congr {M : Mem} {A A' : AS} (h : CA M A) (hI : AI A) (e : simA A A') : CA M A' := by
  obtain ⟨sg, h1, h2, h3, h4, h5, h6⟩ := h
  obtain ⟨i1, i2, i3⟩ := hI
  obtain ⟨e1, e2, e3, e4, e5⟩ := e
  refine ⟨sg, HR_congrE h1 i1 e1, ⟨by rw [e4]; exact h2.1, by rw [e4]; exact h2.2.1, fun j hj => ?_⟩, by rw [e2]; exact h3, by rw [e2]; exact h4, h5, fun k hk => ?_⟩
  · rw [e4] at hj
    rw [e5 j hj]
    exact h2.2.2 j hj
  · rw [e2] at hk
    exact HR_congrE (h6 k hk) (i2 k hk) (e3 k hk)
/-- what holds between two calls -/
def JT (M : Mem) (pn tn : Nat) : Prop := pn ≤ 4 ∧ tn ≤ 60 ∧ CA M (AM M pn tn) ∧ AI (AM M pn tn) ∧ M 224 5 = 0 ∧ M 224 4 = nI pn ∧ M 224 7 = nI tn
def Jn (M : Mem) : Prop := ∃ pn tn, JT M pn tn
theorem J_of {M1 M2 : Mem} {A1 : AS} {pn tn : Nat} (hCA : CA M1 A1) (hAI : AI A1) (hf : ∀ a, a < 224 → M2 a = M1 a) (hs : simA A1 (AM M2 pn tn)) (hp : pn ≤ 4) (ht : tn ≤ 60) (h5 : M2 224 5 = 0) (h4 : M2 224 4 = nI pn) (h7 : M2 224 7 = nI tn) : Jn M2 :=
  ⟨pn, tn, hp, ht, CA_congr (CA_frame hCA hAI (fun a ha => hf a (by omega))) hAI hs, AI_congr hAI hs, h5, h4, h7⟩
theorem AM_fr {M M1 : Mem} (h : frC M M1) (pn tn : Nat) : AM M1 pn tn = AM M pn tn := by
  have e : pastF M1 = pastF M := by
    funext p k
    show M1 226 (110 * p + k) = M 226 (110 * p + k)
    rw [h 226 (by decide)]
  show (M1 225, pastF M1, pn, M1 229, tn) = (M 225, pastF M, pn, M 229, tn)
  rw [e, h 225 (by decide), h 229 (by decide)]
theorem pastF_row {M M1 : Mem} (h : M1 226 = M 226) : pastF M1 = pastF M := by
  funext p k
  show M1 226 (110 * p + k) = M 226 (110 * p + k)
  rw [h]
/-- nothing has changed but what does not count -/
theorem J_same {M M1 M2 : Mem} {pn tn : Nat} (j : JT M pn tn) (hCA : CA M1 (AM M pn tn)) (fr : frC M M1) (hf : ∀ a, a < 224 → M2 a = M1 a) (h225 : ∀ k, k < 110 → M2 225 k = M1 225 k) (h226 : M2 226 = M1 226) (h229 : M2 229 = M1 229) (h5 : M2 224 5 = 0) (h4 : M2 224 4 = nI pn) (h7 : M2 224 7 = nI tn) : Jn M2 := by
  obtain ⟨j1, j2, j3, j4, j5, j6, j7⟩ := j
  refine J_of hCA j4 hf ⟨fun k hk => ?_, rfl, fun p _ k _ => ?_, rfl, fun i _ => ?_⟩ j1 j2 h5 h4 h7
  · show M2 225 k = M 225 k
    rw [h225 k hk, fr 225 (by decide)]
  · show pastF M2 p k = pastF M p k
    rw [pastF_row h226, pastF_row (fr 226 (by decide))]
  · show M2 229 i = M 229 i
    rw [h229, fr 229 (by decide)]
theorem J_back {M M1 M2 : Mem} {pn tn : Nat} (j : JT M pn tn) (hCA : CA M1 (AM M pn tn)) (fr : frC M M1) (hb : back110 M1 M2) : Jn M2 := by
  have e : ∀ a, a ≠ 225 → a ≠ 228 → M2 a = M1 a := hb.2
  have e4 : M2 224 = M 224 := (e 224 (by decide) (by decide)).trans (fr 224 (by decide))
  refine J_same j hCA fr (fun a ha => e a (by omega) (by omega)) hb.1 (e 226 (by decide) (by decide)) (e 229 (by decide) (by decide)) ?_ ?_ ?_
  · rw [e4]; exact j.2.2.2.2.1
  · rw [e4]; exact j.2.2.2.2.2.1
  · rw [e4]; exact j.2.2.2.2.2.2
theorem J_bk {M M1 M2 : Mem} {pn tn : Nat} (j : JT M pn tn) (hCA : CA M1 (AM M pn tn)) (fr : frC M M1) (hb : bkP M1 pn tn M2) : Jn M2 := by
  obtain ⟨b1, b2, b3, b4, b5⟩ := hb
  exact J_same j hCA fr (fun a ha => b1 a (by omega) (by omega) (by omega) (by omega)) (fun k _ => by rw [b2]) (b1 226 (by decide) (by decide) (by decide) (by decide)) (b1 229 (by decide) (by decide) (by decide) (by decide)) b5 b3 b4
/-- a change that answered r, kept -/
theorem J_kept {M M1 M2 : Mem} {pn tn : Nat} {r : Int32 × SV} (j : JT M pn tn) (fr : frC M M1) (hn : ¬ r.1 < 0) (hCA : CA M1 (apA (AM M pn tn) r)) (hAI : AI (apA (AM M pn tn) r)) (hf : ∀ a, a < 224 → M2 a = M1 a) (h225 : M2 225 = r.2) (h229 : M2 229 = M1 229) (h5 : M2 224 5 = 0) (h4 : M2 224 4 = nI (pushP (pastF M1) pn (M1 225)).2) (h7 : M2 224 7 = nI tn) (hp : ∀ p, p < (pushP (pastF M1) pn (M1 225)).2 → ∀ k, k < 110 → pastF M2 p k = (pushP (pastF M1) pn (M1 225)).1 p k) : Jn M2 := by
  obtain ⟨j1, j2, j3, j4, j5, j6, j7⟩ := j
  rw [pastF_row (fr 226 (by decide)), fr 225 (by decide)] at h4 hp
  have e : apA (AM M pn tn) r = (r.2, (pushP (pastF M) pn (M 225)).1, (pushP (pastF M) pn (M 225)).2, M 229, tn) := if_neg hn
  rw [e] at hCA hAI
  refine J_of (pn := (pushP (pastF M) pn (M 225)).2) (tn := tn) hCA hAI hf ⟨fun k _ => ?_, rfl, fun p h k hk => hp p h k hk, rfl, fun i _ => ?_⟩ (pushP_le _ _ j1) j2 h5 h4 h7
  · show M2 225 k = r.2 k
    rw [h225]
  · show M2 229 i = M 229 i
    rw [h229, fr 229 (by decide)]
theorem J_mok {M M1 M2 : Mem} {pn tn : Nat} {r : Int32 × SV} (j : JT M pn tn) (fr : frC M M1) (hCA : CA M1 (apA (AM M pn tn) r)) (hAI : AI (apA (AM M pn tn) r)) (hm : MOK M1 pn r M2) : Jn M2 := by
  have e4 : M1 224 = M 224 := fr 224 (by decide)
  rcases hm with ⟨hn, rfl⟩ | ⟨hn, M3, hc, rfl⟩
  · have e : apA (AM M pn tn) r = AM M pn tn := if_pos hn
    rw [e] at hCA
    refine J_same j hCA fr (fun _ _ => rfl) (fun _ _ => rfl) rfl rfl ?_ ?_ ?_
    · rw [e4]; exact j.2.2.2.2.1
    · rw [e4]; exact j.2.2.2.2.2.1
    · rw [e4]; exact j.2.2.2.2.2.2
  · obtain ⟨c1, -, c3⟩ := hc
    obtain ⟨c4, c5⟩ := c3 (by rw [e4]; exact j.2.2.2.2.1)
    refine J_kept j fr hn hCA hAI (fun a ha => (updr_ne _ _ (by omega)).trans (c1 a (by omega) (by omega))) (updr_self _ _ _) ((updr_ne _ _ (by decide)).trans (c1 229 (by decide) (by decide))) ?_ ?_ ?_ (fun p hp k hk => ?_)
    · rw [updr_ne _ _ (by decide), c4, upd_ne _ _ (by decide), e4]; exact j.2.2.2.2.1
    · rw [updr_ne _ _ (by decide), c4, upd_self]
    · rw [updr_ne _ _ (by decide), c4, upd_ne _ _ (by decide), e4]; exact j.2.2.2.2.2.2
    · rw [← c5 p hp k hk]
      show updr M3 225 r.2 226 (110 * p + k) = M3 226 (110 * p + k)
      rw [updr_ne _ _ (by decide)]
theorem J_pk {M M1 M2 : Mem} {pn tn : Nat} {r : Int32 × SV} (j : JT M pn tn) (fr : frC M M1) (hCA : CA M1 (apA (AM M pn tn) r)) (hAI : AI (apA (AM M pn tn) r)) (hm : pkP M1 pn tn r M2) : Jn M2 := by
  rcases hm with ⟨hn, hb⟩ | ⟨hn, p1, p2, p3, p4, p5, p6⟩
  · have e : apA (AM M pn tn) r = AM M pn tn := if_pos hn
    rw [e] at hCA
    exact J_bk j hCA fr hb
  · exact J_kept j fr hn hCA hAI (fun a ha => p1 a (by omega) (by omega) (by omega) (by omega) (by omega)) p2 (p1 229 (by decide) (by decide) (by decide) (by decide) (by decide)) p5 p3 p4 p6
theorem J_undo {M M1 : Mem} {pn tn : Nat} (j : JT M pn tn) (fr : frC M M1) (hCA : CA M1 (oUndo (AM M pn tn)).2) (hAI : AI (oUndo (AM M pn tn)).2) : Jn (if pn = 0 then M1 else updr (upd2 M1 224 4 (nI (pn - 1))) 225 (cpyF (pastF M1 (pn - 1)) (M1 225) 110)) ∧ (oUndo (AM M pn tn)).1 = (if pn = 0 then -1000002 else nI (pn - 1)) := by
  have e4 : M1 224 = M 224 := fr 224 (by decide)
  by_cases h0 : pn = 0
  · have e : oUndo (AM M pn tn) = (-1000002, AM M pn tn) := if_pos h0
    rw [e] at hCA ⊢
    rw [if_pos h0, if_pos h0]
    refine ⟨J_same j hCA fr (fun _ _ => rfl) (fun _ _ => rfl) rfl rfl ?_ ?_ ?_, rfl⟩
    · rw [e4]; exact j.2.2.2.2.1
    · rw [e4]; exact j.2.2.2.2.2.1
    · rw [e4]; exact j.2.2.2.2.2.2
  · have e : oUndo (AM M pn tn) = (nI (pn - 1), (pastF M (pn - 1), pastF M, pn - 1, M 229, tn)) := if_neg h0
    rw [e] at hCA hAI ⊢
    rw [if_neg h0, if_neg h0]
    obtain ⟨j1, j2, j3, j4, j5, j6, j7⟩ := j
    refine ⟨J_of (pn := pn - 1) (tn := tn) hCA hAI (fun a ha => (updr_ne _ _ (by omega)).trans (upd2_k _ _ _ (by omega))) ⟨fun k hk => ?_, rfl, fun p hp k hk => ?_, rfl, fun i _ => ?_⟩ (by omega) j2 ?_ ?_ ?_, rfl⟩
    · show updr (upd2 M1 224 4 (nI (pn - 1))) 225 (cpyF (pastF M1 (pn - 1)) (M1 225) 110) 225 k = pastF M (pn - 1) k
      rw [updr_self, cpyF_lt _ _ _ hk, pastF_row (fr 226 (by decide))]
    · show updr (upd2 M1 224 4 (nI (pn - 1))) 225 (cpyF (pastF M1 (pn - 1)) (M1 225) 110) 226 (110 * p + k) = M 226 (110 * p + k)
      rw [updr_ne _ _ (by decide), upd2_k _ _ _ (by decide), fr 226 (by decide)]
    · show updr (upd2 M1 224 4 (nI (pn - 1))) 225 (cpyF (pastF M1 (pn - 1)) (M1 225) 110) 229 i = M 229 i
      rw [updr_ne _ _ (by decide), upd2_k _ _ _ (by decide), fr 229 (by decide)]
    · rw [updr_ne _ _ (by decide), upd2_j _ _ _ (by decide), e4]; exact j5
    · rw [updr_ne _ _ (by decide), upd2_self]
    · rw [updr_ne _ _ (by decide), upd2_j _ _ _ (by decide), e4]; exact j7
theorem J_type {M M1 : Mem} {pn tn : Nat} (j : JT M pn tn) (fr : frC M M1) (x : Int32) (hCA : CA M1 (oType (AM M pn tn) x).2) (hAI : AI (oType (AM M pn tn) x).2) : Jn (if (32 ≤ x ∧ x ≤ 126) ∧ tn < 60 then typM M1 tn x else M1) ∧ (oType (AM M pn tn) x).1 = (if 32 ≤ x ∧ x ≤ 126 then (if tn < 60 then nI (tn + 1) else -1000003) else -1000001) := by
  have e4 : M1 224 = M 224 := fr 224 (by decide)
  have same : CA M1 (AM M pn tn) → Jn M1 := by
    intro hC
    refine J_same j hC fr (fun _ _ => rfl) (fun _ _ => rfl) rfl rfl ?_ ?_ ?_
    · rw [e4]; exact j.2.2.2.2.1
    · rw [e4]; exact j.2.2.2.2.2.1
    · rw [e4]; exact j.2.2.2.2.2.2
  by_cases h1 : 32 ≤ x ∧ x ≤ 126
  · by_cases h2 : tn < 60
    · have e : oType (AM M pn tn) x = (nI (tn + 1), (M 225, pastF M, pn, upd (M 229) tn x, tn + 1)) := (if_pos h1).trans (if_pos h2)
      rw [e] at hCA hAI ⊢
      rw [if_pos ⟨h1, h2⟩, if_pos h1, if_pos h2]
      obtain ⟨j1, j2, j3, j4, j5, j6, j7⟩ := j
      refine ⟨J_of (pn := pn) (tn := tn + 1) hCA hAI (fun a ha => (upd2_k _ _ _ (by omega)).trans (upd2_k _ _ _ (by omega))) ⟨fun k hk => ?_, rfl, fun p hp k hk => ?_, rfl, fun i _ => ?_⟩ j1 (by omega) ?_ ?_ ?_, rfl⟩
      · show typM M1 tn x 225 k = M 225 k
        unfold typM
        rw [upd2_k _ _ _ (by decide), upd2_k _ _ _ (by decide), fr 225 (by decide)]
      · show typM M1 tn x 226 (110 * p + k) = M 226 (110 * p + k)
        unfold typM
        rw [upd2_k _ _ _ (by decide), upd2_k _ _ _ (by decide), fr 226 (by decide)]
      · show typM M1 tn x 229 i = upd (M 229) tn x i
        unfold typM
        rw [upd2_k _ _ _ (by decide), upd2_row, fr 229 (by decide)]
      · unfold typM
        rw [upd2_j _ _ _ (by decide), upd2_k _ _ _ (by decide), e4]; exact j5
      · unfold typM
        rw [upd2_j _ _ _ (by decide), upd2_k _ _ _ (by decide), e4]; exact j6
      · unfold typM
        rw [upd2_self]
    · have e : oType (AM M pn tn) x = (-1000003, AM M pn tn) := (if_pos h1).trans (if_neg h2)
      rw [e] at hCA ⊢
      rw [if_neg (fun q => h2 q.2), if_pos h1, if_neg h2]
      exact ⟨same hCA, rfl⟩
  · have e : oType (AM M pn tn) x = (-1000001, AM M pn tn) := if_neg h1
    rw [e] at hCA ⊢
    rw [if_neg (fun q => h1 q.1), if_neg h1]
    exact ⟨same hCA, rfl⟩
theorem J_clear {M M1 : Mem} {pn tn : Nat} (j : JT M pn tn) (fr : frC M M1) (hCA : CA M1 (oClear (AM M pn tn)).2) (hAI : AI (oClear (AM M pn tn)).2) : Jn (upd2 M1 224 7 0) ∧ (oClear (AM M pn tn)).1 = M1 224 7 := by
  have e4 : M1 224 = M 224 := fr 224 (by decide)
  obtain ⟨j1, j2, j3, j4, j5, j6, j7⟩ := j
  refine ⟨J_of (pn := pn) (tn := 0) hCA hAI (fun a ha => upd2_k _ _ _ (by omega)) ⟨fun k hk => ?_, rfl, fun p hp k hk => ?_, rfl, fun i _ => ?_⟩ j1 (by decide) ?_ ?_ ?_, ?_⟩
  · show upd2 M1 224 7 0 225 k = M 225 k
    rw [upd2_k _ _ _ (by decide), fr 225 (by decide)]
  · show upd2 M1 224 7 0 226 (110 * p + k) = M 226 (110 * p + k)
    rw [upd2_k _ _ _ (by decide), fr 226 (by decide)]
  · show upd2 M1 224 7 0 229 i = M 229 i
    rw [upd2_k _ _ _ (by decide), fr 229 (by decide)]
  · rw [upd2_j _ _ _ (by decide), e4]; exact j5
  · rw [upd2_j _ _ _ (by decide), e4]; exact j6
  · rw [upd2_self]; exact nI0
  · rw [e4, j7]
    rfl
/-! as the world is made -/
theorem M0_0 {k : Nat} (h3 : kd k ≠ 3) (h17 : kd k ≠ 17) (hs : k ≠ 225) : M0 k = fun _ => 0 := M0_zf h3 h17 hs
abbrev S0 : SV := fun j => if j = 3 then 1 else 0
theorem M0_225 : M0 225 = S0 := by
  funext j
  unfold M0
  rw [if_neg (by decide), if_neg (by decide), if_pos rfl]
theorem Inv_0 : Inv S0 0 := by
  refine ⟨⟨0, by decide, rfl⟩, ⟨0, by decide, rfl⟩, rfl, by decide, ⟨1, by decide, rfl⟩, fun i hi => ?_, fun i hi => ?_⟩
  · exact absurd hi (by show ¬ i < cn S0; rw [show cn S0 = 0 from by decide]; omega)
  · exact absurd hi (by show ¬ i < gn S0; rw [show gn S0 = 0 from by decide]; omega)
theorem HR_0 : HR M0 1 S0 := by
  have h : ∀ j, M0 1 j = if j = 5 then 1 else 0 := fun j => M0_h (by decide) j
  refine ⟨?_, ?_, ?_, ?_, fun i hi => ?_, fun i hi => ?_⟩
  · rw [h]; rfl
  · rw [h]; rfl
  · rw [h]; rfl
  · rw [h]; rfl
  · exact absurd hi (by rw [show cn S0 = 0 from by decide]; omega)
  · exact absurd hi (by rw [show gn S0 = 0 from by decide]; omega)
theorem J_0 : Jn M0 := by
  have z : ∀ k, kd k ≠ 3 → kd k ≠ 17 → k ≠ 225 → ∀ j, M0 k j = 0 := fun k h1 h2 h3 j => M0_z h1 h2 h3 j
  refine ⟨0, 0, by decide, by decide, ⟨fun k => k, ?_, ⟨by decide, ?_, fun j hj => absurd hj (Nat.not_lt_zero j)⟩, by decide, ?_, ⟨fun k hk => ?_, fun i j _ _ e => e⟩, fun k hk => absurd hk (Nat.not_lt_zero k)⟩, ⟨⟨0, by decide, ?_⟩, fun k hk => absurd hk (Nat.not_lt_zero k), fun j hj => absurd hj (Nat.not_lt_zero j)⟩, ?_, ?_, ?_⟩
  · show HR M0 1 (M0 225)
    rw [M0_225]
    exact HR_0
  · rw [z 220 (by decide) (by decide) (by decide)]; exact nI0
  · rw [z 63 (by decide) (by decide) (by decide)]; exact nI0
  · exact ⟨M0_64 k, hk⟩
  · show Inv (M0 225) 0
    rw [M0_225]
    exact Inv_0
  · exact z 224 (by decide) (by decide) (by decide) 5
  · rw [z 224 (by decide) (by decide) (by decide)]; exact nI0
  · rw [z 224 (by decide) (by decide) (by decide)]; exact nI0
