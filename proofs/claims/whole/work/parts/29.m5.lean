/-! the check: how many gaps were told; copies; what is kept -/
theorem sumM_ext {S S' : SV} {q : Nat} : ∀ n, (∀ k, k < n → cw S' k q = cw S k q) → sumM S' q n = sumM S q n := by
  intro n
  induction n with
  | zero => intro _; rfl
  | succ n ih =>
    intro h
    show sumM S' q n + cw S' n q = sumM S q n + cw S n q
    rw [ih (fun k hk => h k (by omega)), h n (by omega)]
theorem pop_add : ∀ i, i < 6 → ∀ z, z < 64 → z < 2 ^ i → pop6 (z + 2 ^ i) = pop6 z + 1 ∧ nI z ||| (1 <<< (nI i &&& 31)) = nI (z + 2 ^ i) := by decide +kernel
theorem sC_8 (E : SV) (i : Nat) : (∀ k, k ≠ i → cw (sC E i) k 8 = cw E k 8) ∧ cw (sC E i) i 8 = cw E i 8 + (if tC E i then 1 else 0) := by
  unfold sC
  by_cases h : tC E i
  · rw [if_pos h, if_pos h]
    unfold beg
    refine ⟨fun k hk => ?_, ?_⟩
    · rw [cw_upd_lo _ _ _ (by decide), cw_setC_ne _ _ (by decide) hk, cw_setC_ne _ _ (by decide) hk]
    · rw [cw_upd_lo _ _ _ (by decide), cw_setC _ _ _ (by decide)]
      unfold bw
      rw [upd_ne _ _ (by decide), upd_ne _ _ (by decide), upd_ne _ _ (by decide), cw_setC _ _ _ (by decide)]
      rfl
  · rw [if_neg h, if_neg h]
    refine ⟨fun k hk => cw_setC_ne _ _ (by decide) hk, ?_⟩
    rw [cw_setC _ _ _ (by decide), Int32.add_zero]
    rfl
theorem eC_told {S : SV} {t : Nat} (h : Inv S t) : ∀ i, i ≤ cn S → ∃ z, z < 2 ^ i ∧ (eC S i).2 = nI z ∧ sumM (eC S i).1 8 i = sumM S 8 i + nI (pop6 z) := by
  have hn := h.cn_le.1
  intro i
  induction i with
  | zero => intro _; exact ⟨0, by decide, nI0, rfl⟩
  | succ i ih =>
    intro hi
    obtain ⟨z, hz, a6, hs⟩ := ih (by omega)
    obtain ⟨-, -, -, a4, -, -⟩ := eC_inv h i (by omega)
    have h64 : (2 : Nat) ^ i ≤ 64 := Nat.le_trans (Nat.pow_le_pow_right (by decide) (show i ≤ 6 by omega)) (by decide)
    obtain ⟨p1, p2⟩ := pop_add i (by omega) z (by omega) hz
    obtain ⟨s1, s2⟩ := sC_8 (eC S i).1 i
    have e1 : sumM (eC S (i + 1)).1 8 (i + 1) = sumM S 8 i + nI (pop6 z) + (cw S i 8 + (if tC (eC S i).1 i then 1 else 0)) := by
      show sumM (sC (eC S i).1 i) 8 i + cw (sC (eC S i).1 i) i 8 = _
      rw [sumM_ext i (fun k hk => s1 k (by omega)), hs, s2, a4 i (by omega) (Nat.le_refl i) 8 (by decide)]
    have e2 : (eC S (i + 1)).2 = if tC (eC S i).1 i then (eC S i).2 ||| (1 <<< (nI i &&& 31)) else (eC S i).2 := rfl
    rw [e1, e2]
    show ∃ z', z' < 2 ^ (i + 1) ∧ _ ∧ _ = sumM S 8 i + cw S i 8 + nI (pop6 z')
    by_cases hT : tC (eC S i).1 i
    · rw [if_pos hT, if_pos hT, a6, p2]
      refine ⟨z + 2 ^ i, by rw [Nat.pow_succ]; omega, rfl, ?_⟩
      rw [p1, ← nI_1, Int32.add_assoc, Int32.add_assoc]
      congr 1
      rw [← Int32.add_assoc, Int32.add_comm (nI (pop6 z)), Int32.add_assoc]
    · rw [if_neg hT, if_neg hT]
      refine ⟨z, by rw [Nat.pow_succ]; omega, a6, ?_⟩
      rw [Int32.add_zero, Int32.add_assoc, Int32.add_assoc, Int32.add_comm (nI (pop6 z))]
theorem ends_told {S : SV} {t : Nat} (h : Inv S t) : sumM (ends S) 8 (cn S) = sumM S 8 (cn S) + jbc (endsZ S) := by
  obtain ⟨z, hz, a6, hs⟩ := eC_told h (cn S) (Nat.le_refl _)
  have hn := h.cn_le.1
  have hz6 : z < 64 := Nat.lt_of_lt_of_le hz (Nat.le_trans (Nat.pow_le_pow_right (by decide) hn) (by decide))
  obtain ⟨a1, -, a3, -, -, -⟩ := eC_inv h (cn S) (Nat.le_refl _)
  obtain ⟨-, b2, -, -⟩ := eG_inv hz6 t (gn S) h.gn_le.1 (fun k hk => GI_congr (h.2.2.2.2.2.2 k hk) (fun j hj => a3 k j hj)) (gn S) (Nat.le_refl _)
  unfold endsZ
  rw [a6, jbc_nI z hz6, ← hs]
  refine sumM_ext _ (fun k hk => ?_)
  unfold ends
  rw [cw_upd_lo _ _ _ (by decide), a6]
  exact b2 k (by omega) 8 (by decide)
theorem endsN_told {S : SV} {t : Nat} (h : Inv S t) : ∀ k, t + k ≤ 100200 → sumM (endsN S k).2 8 (cn S) = sumM S 8 (cn S) + (endsN S k).1 := by
  intro k
  induction k with
  | zero => intro _; exact (Int32.add_zero _).symm
  | succ k ih =>
    intro hk
    have e := ends_told (endsN_inv h k (by omega))
    rw [(endsN_cn h k (by omega)).1] at e
    show sumM (ends (endsN S k).2) 8 (cn S) = sumM S 8 (cn S) + ((endsN S k).1 + jbc (endsZ (endsN S k).2))
    rw [e, ih (by omega), Int32.add_assoc]
set_option maxHeartbeats 4000000 in
set_option maxRecDepth 100000 in
theorem c_X8_endsFor (l : Launch) (g : Gm) (M : Mem) (t : Nat) (hi : Inv (M 225) t) (kn : Nat) (hk2 : kn ≤ 200) (ht : t + kn ≤ 100200) : Cn l yX8_endsFor cX8_endsFor 4 (some .int) 5 113 g [.ref (ad g 224), .int (nI kn)] M (fun v M2 => v = some (.int (endsN (M 225) kn).1) ∧ M2 = updr M 225 (endsN (M 225) kn).2) := by
  refine Cn.intro (lv0 := [some (.ref (ad g 224)), some (.int (nI kn)), none, none]) 2 (by decide +kernel) (Nat.le_of_ble_eq_true rfl) rfl (fun X F r => ?_)
  have k224 := kd224
  have k225 := kd225
  have hn := hi.cn_le
  have hm := hi.gn_le
  refine g_aload_n (pc := 0) F dX8_endsFor_0 rfl ?_
  refine g_bipush (pc := 1) (v := 8) F dX8_endsFor_1 (by decide) ?_
  refine g_callV (pc := 3) (rf2 := 1) (rl2 := 22) F cs_X8_74 k224 rfl (by decide) (by rfl) (by rfl) (Nat.le_of_ble_eq_true (by rfl)) (by decide) dX8_endsFor_3 (c_X8_sum _ g _ t hi 8 (by decide)) (fun v M2 hz => ?_)
  obtain ⟨rfl, h2⟩ := hz
  rw [h2]
  refine g_istore_n (pc := 6) F dX8_endsFor_6 (by decide) rfl ?_
  refine g_iconst (pc := 7) (v := 0) F dX8_endsFor_7 (by decide) ?_
  refine g_istore_n (pc := 8) F dX8_endsFor_8 (by decide) rfl ?_
  have L : ∀ (n j : Nat) (y : Int32), j + n = kn → y = nI j → G X g 4 (updr M 225 (endsN (M 225) j).2) 9 [some (.ref (ad g 224)), some (.int (nI kn)), some (.int (sumM (M 225) 8 (cn (M 225)))), some (.int y)] [] := by
    intro n
    induction n with
    | zero =>
      intro j y hjn hy
      obtain rfl : kn = j := by omega
      refine g_iload_n (pc := 9) F dX8_endsFor_9 rfl ?_
      refine g_iload_n (pc := 10) F dX8_endsFor_10 rfl ?_
      refine g_icmp_ge (pc := 11) (tgt := 24) F dX8_endsFor_11 (by decide) (fun c11 => ?_) (fun c11 => ?_)
      · refine g_aload_n (pc := 24) F dX8_endsFor_24 rfl ?_
        refine g_bipush (pc := 25) (v := 8) F dX8_endsFor_25 (by decide) ?_
        refine g_callV (pc := 27) (rf2 := 1) (rl2 := 22) F cs_X8_74 k224 rfl (by decide) (by rfl) (by rfl) (Nat.le_of_ble_eq_true (by rfl)) (by decide) dX8_endsFor_27 (c_X8_sum _ g _ (t + kn) (by rw [updr_self]; exact endsN_inv hi kn (by omega)) 8 (by decide)) (fun v M2 hz => ?_)
        obtain ⟨rfl, h2⟩ := hz
        rw [h2, updr_self]
        refine g_iload_n (pc := 30) F dX8_endsFor_30 rfl ?_
        refine g_isub (pc := 31) F dX8_endsFor_31 ?_
        refine g_iret (pc := 32) F r dX8_endsFor_32 ?_
        refine ⟨?_, rfl⟩
        rw [(endsN_cn hi kn (by omega)).1, endsN_told hi kn (by omega), Int32.add_comm, Int32.add_sub_cancel]
      · exact absurd (by rw [hy]; exact nI_le (by omega) (by omega)) c11
    | succ n ih =>
      intro j y hjn hy
      refine g_iload_n (pc := 9) F dX8_endsFor_9 rfl ?_
      refine g_iload_n (pc := 10) F dX8_endsFor_10 rfl ?_
      refine g_icmp_ge (pc := 11) (tgt := 24) F dX8_endsFor_11 (by decide) (fun c11 => ?_) (fun c11 => ?_)
      · exact absurd c11 (by rw [hy]; exact nI_ge (by omega) (by omega))
      · refine g_aload_n (pc := 14) F dX8_endsFor_14 rfl ?_
        refine g_callV (pc := 15) (rf2 := 4) (rl2 := 90) F cs_X8_77 k224 rfl (by decide) (by rfl) (by rfl) (Nat.le_of_ble_eq_true (by rfl)) (by decide) dX8_endsFor_15 (c_X8_ends _ g _ (t + j) (by rw [updr_self]; exact endsN_inv hi j (by omega))) (fun v M2 hz => ?_)
        obtain ⟨rfl, h2⟩ := hz
        rw [h2, updr_updr, updr_self]
        refine g_iinc (pc := 18) F dX8_endsFor_18 rfl rfl (by decide) rfl ?_
        refine g_goto (pc := 21) (tgt := 9) F dX8_endsFor_21 (by decide) ?_
        exact G.sub [some (.ref (ad g 224)), some (.int (nI kn)), some (.int (sumM (M 225) 8 (cn (M 225)))), some (.int (y + Int32.ofInt 1))] ⟨rfl, rfl, rfl, rfl, trivial⟩ (ih (j + 1) _ (by omega) (by rw [hy]; exact nI_1 j))
  refine G.mem (M' := updr M 225 (endsN (M 225) 0).2) (by show M = updr M 225 (M 225); rw [updr_same]) ?_
  exact L kn 0 _ (by omega) nI0

def cpyF (f r : Nat → Int32) (n : Nat) : Nat → Int32 := fun k => if k < n then f k else r k
theorem cpyF_s (f r : Nat → Int32) (n : Nat) : upd (cpyF f r n) n (f n) = cpyF f r (n + 1) := by
  funext k
  unfold cpyF
  rw [upd_get]
  by_cases h : k = n
  · rw [if_pos h, if_pos (by omega), h]
  · rw [if_neg h]
    by_cases h2 : k < n
    · rw [if_pos h2, if_pos (by omega)]
    · rw [if_neg h2, if_neg (by omega)]
set_option maxHeartbeats 4000000 in
set_option maxRecDepth 100000 in
theorem c_X8_copies (l : Launch) (g : Gm) (M : Mem) (a b : Nat) (ha : kd a = 11) (hb : kd b = 11) (hab : a ≠ b) : Cn l yX8_copies cX8_copies 3 none 0 0 g [.ref (ad g a), .ref (ad g b)] M (fun v M2 => v = none ∧ M2 = updr M b (cpyF (M a) (M b) 110)) := by
  refine Cn.intro (lv0 := [some (.ref (ad g a)), some (.ref (ad g b)), none]) 1 (by decide +kernel) (Nat.le_of_ble_eq_true rfl) rfl (fun X F r => ?_)
  refine g_iconst (pc := 0) (v := 0) F dX8_copies_0 (by decide) ?_
  refine g_istore_n (pc := 1) F dX8_copies_1 (by decide) rfl ?_
  have L : ∀ (n j : Nat) (y : Int32), j + n = 110 → y = nI j → G X g 3 (updr M b (cpyF (M a) (M b) j)) 2 [some (.ref (ad g a)), some (.ref (ad g b)), some (.int y)] [] := by
    intro n
    induction n with
    | zero =>
      intro j y hjn hy
      obtain rfl : j = 110 := by omega
      refine g_iload_n (pc := 2) F dX8_copies_2 rfl ?_
      refine g_bipush (pc := 3) (v := 110) F dX8_copies_3 (by decide) ?_
      refine g_icmp_ge (pc := 5) (tgt := 20) F dX8_copies_5 (by decide) (fun c5 => ?_) (fun c5 => ?_)
      · refine g_vret (pc := 20) F r dX8_copies_20 ?_
        exact ⟨rfl, rfl⟩
      · exact absurd (by rw [hy]; exact nI_le (a := 110) (b := 110) (by decide) (by decide)) c5
    | succ n ih =>
      intro j y hjn hy
      refine g_iload_n (pc := 2) F dX8_copies_2 rfl ?_
      refine g_bipush (pc := 3) (v := 110) F dX8_copies_3 (by decide) ?_
      refine g_icmp_ge (pc := 5) (tgt := 20) F dX8_copies_5 (by decide) (fun c5 => ?_) (fun c5 => ?_)
      · exact absurd c5 (by rw [hy]; exact nI_ge (a := j) (b := 110) (by omega) (by decide))
      · refine g_aload_n (pc := 8) F dX8_copies_8 rfl ?_
        refine g_iload_n (pc := 9) F dX8_copies_9 rfl ?_
        refine g_aload_n (pc := 10) F dX8_copies_10 rfl ?_
        refine g_iload_n (pc := 11) F dX8_copies_11 rfl ?_
        refine g_iald (pc := 12) (q := j) F ha rfl hy (by omega) dX8_copies_12 ?_
        refine g_iast (pc := 13) (q := j) F hb rfl hy (by omega) dX8_copies_13 ?_
        refine g_iinc (pc := 14) F dX8_copies_14 rfl rfl (by decide) rfl ?_
        refine g_goto (pc := 17) (tgt := 2) F dX8_copies_17 (by decide) ?_
        refine G.mem (M' := updr M b (cpyF (M a) (M b) (j + 1))) ?_ (G.sub [some (.ref (ad g a)), some (.ref (ad g b)), some (.int (y + Int32.ofInt 1))] ⟨rfl, rfl, rfl, trivial⟩ (ih (j + 1) _ (by omega) (by rw [hy]; exact nI_1 j)))
        rw [updr_upd2, updr_ne _ _ hab, cpyF_s]
  refine G.mem (M' := updr M b (cpyF (M a) (M b) 0)) (by show M = updr M b (M b); rw [updr_same]) ?_
  exact L 110 0 _ (by omega) nI0

