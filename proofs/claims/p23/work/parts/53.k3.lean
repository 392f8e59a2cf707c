/-! the history, the text, the orders, the class's object, the check's -/
theorem w0_4 (g : Gm) : wE g M0 63 = .inr (4, [.ref (ad g 64), .int 0]) := by
  rw [wE_obj g M0 (show kd 63 = 4 by decide) (by decide)]
  have z := M0_z (k := 63) (by decide) (by decide) (by decide)
  simp only [tpl, wF, rv, z]
theorem w0_17 (g : Gm) : wE g M0 64 = rarr (gC g 4) 5 (fun j => some (ad g (65 + 31 * (M0 64 j).toNatClampNeg))) := by
  rw [wE_arr g M0 (show kd 64 = 17 by decide) (by decide)]
  rfl
theorem w0_6 (g : Gm) : wE g M0 220 = .inr (6, [.ref (ad g 221), .int 0]) := by
  rw [wE_obj g M0 (show kd 220 = 6 by decide) (by decide)]
  have z := M0_z (k := 220) (by decide) (by decide) (by decide)
  simp only [tpl, wF, rv, z]
theorem w0_14 (g : Gm) : wE g M0 221 = .inl (gC g 1, 60, .inl (fun _ => 0)) := by
  rw [wE_14 g M0 (show kd 221 = 14 by decide), M0_zf (k := 221) (by decide) (by decide) (by decide)]
theorem w0_5 (g : Gm) : wE g M0 222 = .inr (5, [.ref (ad g 220), .ref (ad g 223), .int 0, .int 0, .int 0, .int 0, .int 0]) := by
  rw [wE_obj g M0 (show kd 222 = 5 by decide) (by decide)]
  have z := M0_z (k := 222) (by decide) (by decide) (by decide)
  simp only [tpl, wF, rv, z]
theorem w0_arr (g : Gm) {k c n : Nat} (h : kd k = c) (hn : iarr c = some n) (h3 : kd k ≠ 3) (h17 : kd k ≠ 17) (hs : k ≠ 999) : wE g M0 k = .inl (gC g 0, n, .inl (fun _ => 0)) := by
  rw [wE_iarr g M0 h hn, M0_zf h3 h17 hs]
theorem w0_7 (g : Gm) : wE g M0 0 = .inr (7, [.ref (ad g 1), .ref (ad g 32), .ref (ad g 63), .ref (ad g 220), .ref (ad g 222)]) := by
  rw [wE_obj g M0 (show kd 0 = 7 by decide) (by decide)]
  rfl
def hEC (g : Gm) (E : Nat → va_E) (i : Nat) : Nat → va_E := fun k => if k = 63 then .inr (4, [.ref (ad g 64), .int 0]) else if k = 64 then rarr (gC g 4) 5 (fun j => if j < i then some (ad g (65 + 31 * j)) else none) else if 65 ≤ k ∧ k < 65 + 31 * i then wE g M0 k else E k
theorem hEC_h (g : Gm) (E : Nat → va_E) (i : Nat) : hEC g E i 63 = .inr (4, [.ref (ad g 64), .int 0]) := if_pos rfl
theorem hEC_1 (g : Gm) (E : Nat → va_E) (i : Nat) : hEC g E i 64 = rarr (gC g 4) 5 (fun j => if j < i then some (ad g (65 + 31 * j)) else none) := (if_neg (by decide)).trans (if_pos rfl)
theorem hEC_in (g : Gm) (E : Nat → va_E) {i k : Nat} (h1 : 65 ≤ k) (h2 : k < 65 + 31 * i) : hEC g E i k = wE g M0 k := (if_neg (by omega)).trans ((if_neg (by omega)).trans (if_pos ⟨h1, h2⟩))
theorem hEC_out (g : Gm) (E : Nat → va_E) {i k : Nat} (h1 : k < 63 ∨ 65 + 31 * i ≤ k) : hEC g E i k = E k := (if_neg (by omega)).trans ((if_neg (by omega)).trans (if_neg (by omega)))
theorem c_case (k : Nat) : k = 63 ∨ k = 64 ∨ (k < 63 ∨ 65 ≤ k) := by omega
theorem hEC_0 (g : Gm) (E : Nat → va_E) : updE (updE E 64 (rarr (gC g 4) 5 (fun _ => none))) 63 (.inr (4, [.ref (ad g 64), .int 0])) = hEC g E 0 := by
  funext k
  rcases c_case k with rfl | rfl | hk
  · rw [updE_self, hEC_h]
  · rw [updE_ne _ _ (by omega), updE_self, hEC_1]
    congr
  · rw [updE_ne _ _ (by omega), updE_ne _ _ (by omega), hEC_out g E (by omega)]
theorem hEC_s (g : Gm) (E : Nat → va_E) (i : Nat) (d : va_E) : updE (fin g (updE (hEC g E i) (65 + 31 * i) d) (65 + 31 * i) (65 + 31 * i + 31)) 64 (rarr (gC g 4) 5 (va_up (fun j => if j < i then some (ad g (65 + 31 * j)) else none) i (some (ad g (65 + 31 * i))))) = hEC g E (i + 1) := by
  funext k
  rcases c_case k with rfl | rfl | hk
  · rw [updE_ne _ _ (by omega), fin_lo g _ (by omega), updE_ne _ _ (by omega), hEC_h, hEC_h]
  · rw [updE_self, hEC_1, up_lt (fun j => ad g (65 + 31 * j)) i (fun _ => rfl)]
  · rw [updE_ne _ _ (by omega)]
    by_cases h1 : 65 ≤ k ∧ k < 65 + 31 * i
    · rw [fin_lo g _ (by omega), updE_ne _ _ (by omega), hEC_in g E h1.1 h1.2, hEC_in g E h1.1 (by omega)]
    · by_cases h2 : 65 + 31 * i ≤ k ∧ k < 65 + 31 * i + 31
      · rw [fin_in g _ h2.1 h2.2, hEC_in g E (by omega) (by omega)]
      · have e : fin g (updE (hEC g E i) (65 + 31 * i) d) (65 + 31 * i) (65 + 31 * i + 31) k = updE (hEC g E i) (65 + 31 * i) d k := if_neg h2
        rw [e, updE_ne _ _ (by omega), hEC_out g E (by omega), hEC_out g E (by omega)]
theorem M0_64 (j : Nat) : M0 64 j = nI j := by
  unfold M0
  rw [if_neg (by decide), if_pos (by decide)]
theorem hEC_f (g : Gm) (E : Nat → va_E) (k : Nat) : eqE (hEC g E 5 k) (fin g E 63 220 k) := by
  rcases c_case k with rfl | rfl | hk
  · rw [hEC_h, fin_in g E (by omega) (by omega), w0_4 g]
    exact Or.inl rfl
  · rw [hEC_1, fin_in g E (by omega) (by omega), w0_17 g]
    refine Or.inr ⟨_, _, _, _, rfl, rfl, fun j hj => ?_⟩
    rw [if_pos hj, M0_64, nI_clamp (by omega)]
  · by_cases h1 : 65 ≤ k ∧ k < 220
    · rw [hEC_in g E h1.1 (by omega), fin_in g E (by omega) (by omega)]
      exact Or.inl rfl
    · rw [hEC_out g E (by omega)]
      refine Or.inl ?_
      exact (if_neg (by omega)).symm
theorem kd_65 : ∀ i, i < 5 → kd (65 + 31 * i) = 3 := by decide
set_option maxHeartbeats 4000000 in
set_option maxRecDepth 100000 in
theorem k_X4_init (l : Launch) (g : Gm) (E : Nat → va_E) (hE : E 63 = .inr (4, [.null, .int 0])) : KCn l yX4_init cX4_init 2 4 73 156 885 g [.ref (ad g 63)] E 64 (fin g E 63 220) 220 := by
  refine KCn.intro (lv0 := [some (.ref (ad g 63)), none]) 1 (by decide +kernel) rfl (Nat.le_of_ble_eq_true rfl) rfl (fun X F r hI => ?_)
  have L1 : ∀ (n i : Nat) (y : Int32), i + n = 5 → y = nI i → KG X g 2 (hEC g E i) (65 + 31 * i) (1 + 31 * i) (5 + 176 * i) 14 [some (.ref (ad g 63)), some (.int y)] [] := by
    intro n
    induction n with
    | zero =>
      intro i y hin hy
      obtain rfl : i = 5 := by omega
      refine k_iload_n (pc := 14) F dX4_init_14 rfl ?_
      refine k_aload_n (pc := 15) F dX4_init_15 rfl ?_
      refine k_get (pc := 16) (k := 63) (j := 0) F (by omega) (hEC_h g E 5) rfl uin_X4 (by decide) wf_X4_11 rfl dX4_init_16 ?_
      refine k_alen (pc := 19) (k := 64) (t0 := 4) F (by omega) (hEC_1 g E 5) rfl rfl dX4_init_19 ?_
      refine k_icmp_ge (pc := 20) (tgt := 42) F dX4_init_20 (by decide) (fun c20 => ?_) (fun c20 => ?_)
      · refine KG.eqv (fun k _ => hEC_f g E k) ?_
        exact k_vret (pc := 42) F r dX4_init_42
      · exact absurd (by rw [hy]; exact nI_le (a := 5) (b := 5) (by decide) (by decide)) c20
    | succ n ih =>
      intro i y hin hy
      refine k_iload_n (pc := 14) F dX4_init_14 rfl ?_
      refine k_aload_n (pc := 15) F dX4_init_15 rfl ?_
      refine k_get (pc := 16) (k := 63) (j := 0) F (by omega) (hEC_h g E i) rfl uin_X4 (by decide) wf_X4_11 rfl dX4_init_16 ?_
      refine k_alen (pc := 19) (k := 64) (t0 := 4) F (by omega) (hEC_1 g E i) rfl rfl dX4_init_19 ?_
      refine k_icmp_ge (pc := 20) (tgt := 42) F dX4_init_20 (by decide) (fun c20 => ?_) (fun c20 => ?_)
      · exact absurd c20 (by rw [hy]; exact nI_ge (a := i) (b := 5) (by omega) (by decide))
      · refine k_aload_n (pc := 23) F dX4_init_23 rfl ?_
        refine k_get (pc := 24) (k := 63) (j := 0) F (by omega) (hEC_h g E i) rfl uin_X4 (by decide) wf_X4_11 rfl dX4_init_24 ?_
        refine k_iload_n (pc := 27) F dX4_init_27 rfl ?_
        refine k_new (pc := 28) (ci := 3) (fs := [.null, .int 0, .null, .int 0, .int 0, .int 0]) F wcl_X4_9 win_X3 wz_X3 rfl uin_X3 tyX3_ok (fun j hj => match j, hj with | 0, _ => rfl | 1, _ => rfl | 2, _ => rfl | 3, _ => rfl | 4, _ => rfl | 5, _ => rfl | k + 6, h => absurd h (by omega)) (by omega) (by omega) dX4_init_28 ?_
        refine k_dup (pc := 31) F dX4_init_31 rfl ?_
        refine k_callI (pc := 32) (rf2 := 3) (rl2 := 52) (mc := 30) (ms := 170) (na := 0) F wl_X4_17 wi_X3_init wz_X3 wc_X3_init rfl (by decide) (by rfl) (by rfl) (Nat.le_of_ble_eq_true (by rfl)) (by decide) ⟨by omega, by omega⟩ dX4_init_32 (k_X3_init _ g _ (65 + 31 * i) (kd_65 i (by omega)) (updE_self _ _ _)) ?_
        refine k_aast (pc := 35) (k := 64) (kv := 65 + 31 * i) (t0 := 4) (ci := 3) (r := (RX3, TX3, 6)) (N := 5) (q := i) F (by omega) (by rw [fin_lo g _ (by omega), updE_ne _ _ (by omega)]; exact hEC_1 g E i) rfl (by omega) (by rw [fin_in g _ (Nat.le_refl _) (by omega)]; exact w0_3 g (kd_65 i (by omega))) rfl hy (by omega) (by decide) dX4_init_35 ?_
        refine k_iinc (pc := 36) F dX4_init_36 rfl rfl (by decide) rfl ?_
        refine k_goto (pc := 39) (tgt := 14) F dX4_init_39 (by decide) ?_
        refine KG.eE (hEC_s g E i _) ?_
        refine KG.cnt (n' := 65 + 31 * (i + 1)) (cs' := 1 + 31 * (i + 1)) (sl' := 5 + 176 * (i + 1)) (by omega) (by omega) (by omega) ?_
        exact ih (i + 1) _ (by omega) (by rw [hy]; exact nI_1 i)
  refine k_aload_n (pc := 0) F dX4_init_0 rfl ?_
  refine k_objInit (pc := 1) F wl_X4_3 (by decide) (by decide) dX4_init_1 ?_
  refine k_aload_n (pc := 4) F dX4_init_4 rfl ?_
  refine k_iconst (pc := 5) (v := 5) F dX4_init_5 (by decide) ?_
  refine k_anew (pc := 6) (t0 := 4) (N := 5) F wcl_X4_9 (fun _ h => h.2.2.2.2) rfl rfl (by decide) (by decide) (by decide) dX4_init_6 ?_
  refine k_put (pc := 9) (k := 63) (j := 0) F hI (by omega) (by rw [updE_ne _ _ (by omega)]; exact hE) rfl uin_X4 (by decide) tyX4_ok nmX4 wf_X4_11 rfl rfl rfl rfl (Nat.le_of_ble_eq_true rfl) dX4_init_9 ?_
  refine k_iconst (pc := 12) (v := 0) F dX4_init_12 (by decide) ?_
  refine k_istore_n (pc := 13) F dX4_init_13 (by decide) rfl ?_
  refine KG.eE (hEC_0 g E) ?_
  exact L1 5 0 _ (by omega) nI_0.symm

set_option maxHeartbeats 4000000 in
set_option maxRecDepth 100000 in
theorem k_X6_init (l : Launch) (g : Gm) (E : Nat → va_E) (hE : E 220 = .inr (6, [.null, .int 0])) : KCn l yX6_init cX6_init 1 1 12 1 60 g [.ref (ad g 220)] E 221 (fin g E 220 222) 222 := by
  refine KCn.intro (lv0 := [some (.ref (ad g 220))]) 0 (by decide +kernel) rfl (Nat.le_of_ble_eq_true rfl) rfl (fun X F r hI => ?_)
  refine k_aload_n (pc := 0) F dX6_init_0 rfl ?_
  refine k_objInit (pc := 1) F wl_X6_3 (by decide) (by decide) dX6_init_1 ?_
  refine k_aload_n (pc := 4) F dX6_init_4 rfl ?_
  refine k_bipush (pc := 5) (v := 60) F dX6_init_5 (by decide) ?_
  refine k_newc (pc := 7) (N := 60) F rfl (by decide) (by decide) (by decide) dX6_init_7 ?_
  refine k_put (pc := 9) (k := 220) (j := 0) F hI (by omega) (by rw [updE_ne _ _ (by omega)]; exact hE) rfl uin_X6 (by decide) tyX6_ok nmX6 wf_X6_9 rfl rfl rfl rfl (Nat.le_of_ble_eq_true rfl) dX6_init_9 ?_
  refine KG.eE (E' := fin g E 220 222) ?_ (k_vret (pc := 12) F r dX6_init_12)
  funext k
  by_cases a0 : k = 220
  · rw [a0, updE_self, fin_in g E (by omega) (by omega), w0_6 g]
    rfl
  · by_cases a1 : k = 221
    · rw [a1, updE_ne _ _ (by omega), updE_self, fin_in g E (by omega) (by omega), w0_14 g]
    · rw [updE_ne _ _ a0, updE_ne _ _ a1]
      exact (if_neg (by omega)).symm

set_option maxHeartbeats 4000000 in
set_option maxRecDepth 100000 in
theorem k_X5_init (l : Launch) (g : Gm) (E : Nat → va_E) (hE : E 222 = .inr (5, [.null, .null, .int 0, .int 0, .int 0, .int 0, .int 0])) : KCn l yX5_init cX5_init 2 1 12 1 5 g [.ref (ad g 222), .ref (ad g 220)] E 223 (fin g E 222 224) 224 := by
  refine KCn.intro (lv0 := [some (.ref (ad g 222)), some (.ref (ad g 220))]) 0 (by decide +kernel) rfl (Nat.le_of_ble_eq_true rfl) rfl (fun X F r hI => ?_)
  refine k_aload_n (pc := 0) F dX5_init_0 rfl ?_
  refine k_objInit (pc := 1) F wl_X5_3 (by decide) (by decide) dX5_init_1 ?_
  refine k_aload_n (pc := 4) F dX5_init_4 rfl ?_
  refine k_iconst (pc := 5) (v := 5) F dX5_init_5 (by decide) ?_
  refine k_newi (pc := 6) (N := 5) F rfl (by decide) (by decide) (by decide) dX5_init_6 ?_
  refine k_put (pc := 8) (k := 222) (j := 1) F hI (by omega) (by rw [updE_ne _ _ (by omega)]; exact hE) rfl uin_X5 (by decide) tyX5_ok nmX5 wf_X5_9 rfl rfl rfl rfl (Nat.le_of_ble_eq_true rfl) dX5_init_8 ?_
  refine k_aload_n (pc := 11) F dX5_init_11 rfl ?_
  refine k_aload_n (pc := 12) F dX5_init_12 rfl ?_
  refine k_put (pc := 13) (k := 222) (j := 0) F hI (by omega) (by rw [updE_self] <;> rfl) rfl uin_X5 (by decide) tyX5_ok nmX5 wf_X5_15 rfl rfl rfl rfl (Nat.le_of_ble_eq_true rfl) dX5_init_13 ?_
  refine KG.eE (E' := fin g E 222 224) ?_ (k_vret (pc := 16) F r dX5_init_16)
  funext k
  by_cases a0 : k = 222
  · rw [a0, updE_self, fin_in g E (by omega) (by omega), w0_5 g]
    rfl
  · by_cases a1 : k = 223
    · rw [a1, updE_ne _ _ (by omega), updE_ne _ _ (by omega), updE_self, fin_in g E (by omega) (by omega), w0_arr g (k := 223) (c := 10) (n := 5) (by decide) rfl (by decide) (by decide) (by decide)]
    · rw [updE_ne _ _ a0, updE_ne _ _ a0, updE_ne _ _ a1]
      exact (if_neg (by omega)).symm

def hEX (g : Gm) (E : Nat → va_E) (m : Nat) (fs : List Value) : Nat → va_E := fun k => if k = 0 then .inr (7, fs) else if k < m then wE g M0 k else E k
theorem hEX_0 (g : Gm) (E : Nat → va_E) (m : Nat) (fs : List Value) : hEX g E m fs 0 = .inr (7, fs) := if_pos rfl
theorem hEX_in (g : Gm) (E : Nat → va_E) {m k : Nat} (fs : List Value) (h0 : k ≠ 0) (h : k < m) : hEX g E m fs k = wE g M0 k := (if_neg h0).trans (if_pos h)
theorem hEX_out (g : Gm) (E : Nat → va_E) {m k : Nat} (fs : List Value) (h0 : k ≠ 0) (h : m ≤ k) : hEX g E m fs k = E k := (if_neg h0).trans (if_neg (by omega))
theorem hEX_s (g : Gm) (E : Nat → va_E) {m m2 : Nat} (fs fs2 : List Value) (d : va_E) (h0 : m ≠ 0) (hm : m < m2) : updE (fin g (updE (hEX g E m fs) m d) m m2) 0 (.inr (7, fs2)) = hEX g E m2 fs2 := by
  funext k
  by_cases a0 : k = 0
  · rw [a0, updE_self, hEX_0]
  · rw [updE_ne _ _ a0]
    by_cases a1 : k < m
    · rw [fin_lo g _ a1, updE_ne _ _ (by omega), hEX_in g E _ a0 a1, hEX_in g E _ a0 (by omega)]
    · by_cases a2 : k < m2
      · rw [fin_in g _ (by omega) a2, hEX_in g E _ a0 a2]
      · have e : fin g (updE (hEX g E m fs) m d) m m2 k = updE (hEX g E m fs) m d k := if_neg (by omega)
        rw [e, updE_ne _ _ (by omega), hEX_out g E _ a0 (by omega), hEX_out g E _ a0 (by omega)]
set_option maxHeartbeats 4000000 in
set_option maxRecDepth 100000 in
theorem k_X7_init (l : Launch) (g : Gm) (E : Nat → va_E) (hE : E 0 = .inr (7, [.null, .null, .null, .null, .null])) : KCn l yX7_init cX7_init 1 5 94 223 1313 g [.ref (ad g 0)] E 1 (fin g E 0 224) 224 := by
  refine KCn.intro (lv0 := [some (.ref (ad g 0))]) 0 (by decide +kernel) rfl (Nat.le_of_ble_eq_true rfl) rfl (fun X F r hI => ?_)
  refine k_aload_n (pc := 0) F dX7_init_0 rfl ?_
  refine k_objInit (pc := 1) F wl_X7_3 (by decide) (by decide) dX7_init_1 ?_
  refine KG.eE (E' := hEX g E 1 [.null, .null, .null, .null, .null]) ?_ ?_
  · funext k
    by_cases a0 : k = 0
    · rw [a0, hEX_0, hE]
    · rw [hEX_out g E _ a0 (by omega)]
  · refine k_aload_n (pc := 4) F dX7_init_4 rfl ?_
    refine k_new (pc := 5) (ci := 3) (fs := [.null, .int 0, .null, .int 0, .int 0, .int 0]) F wcl_X7_9 win_X3 wz_X3 rfl uin_X3 tyX3_ok (fun j hj => match j, hj with | 0, _ => rfl | 1, _ => rfl | 2, _ => rfl | 3, _ => rfl | 4, _ => rfl | 5, _ => rfl | k + 6, h => absurd h (by omega)) (by decide) (by decide) dX7_init_5 ?_
    refine k_dup (pc := 8) F dX7_init_8 rfl ?_
    refine k_callI (pc := 9) (rf2 := 3) (rl2 := 52) (mc := 30) (ms := 170) (na := 0) F wl_X7_11 wi_X3_init wz_X3 wc_X3_init rfl (by decide) (by rfl) (by rfl) (Nat.le_of_ble_eq_true (by rfl)) (by decide) (by decide) dX7_init_9 (k_X3_init _ g _ 1 (by decide) (updE_self _ _ _)) ?_
    refine k_put (pc := 12) (k := 0) (j := 0) F hI (by omega) (by rw [fin_lo g _ (by omega), updE_ne _ _ (by omega)]; exact hEX_0 g E _ _) rfl uin_X7 (by decide) tyX7_ok nmX7 wf_X7_12 rfl rfl rfl rfl (Nat.le_of_ble_eq_true rfl) dX7_init_12 ?_
    refine KG.eE (hEX_s g E (m := 1) (m2 := 32) [.null, .null, .null, .null, .null] [.ref (ad g 1), .null, .null, .null, .null] _ (by decide) (by decide)) ?_
    refine k_aload_n (pc := 15) F dX7_init_15 rfl ?_
    refine k_new (pc := 16) (ci := 3) (fs := [.null, .int 0, .null, .int 0, .int 0, .int 0]) F wcl_X7_9 win_X3 wz_X3 rfl uin_X3 tyX3_ok (fun j hj => match j, hj with | 0, _ => rfl | 1, _ => rfl | 2, _ => rfl | 3, _ => rfl | 4, _ => rfl | 5, _ => rfl | k + 6, h => absurd h (by omega)) (by decide) (by decide) dX7_init_16 ?_
    refine k_dup (pc := 19) F dX7_init_19 rfl ?_
    refine k_callI (pc := 20) (rf2 := 3) (rl2 := 52) (mc := 30) (ms := 170) (na := 0) F wl_X7_11 wi_X3_init wz_X3 wc_X3_init rfl (by decide) (by rfl) (by rfl) (Nat.le_of_ble_eq_true (by rfl)) (by decide) (by decide) dX7_init_20 (k_X3_init _ g _ 32 (by decide) (updE_self _ _ _)) ?_
    refine k_put (pc := 23) (k := 0) (j := 1) F hI (by omega) (by rw [fin_lo g _ (by omega), updE_ne _ _ (by omega)]; exact hEX_0 g E _ _) rfl uin_X7 (by decide) tyX7_ok nmX7 wf_X7_16 rfl rfl rfl rfl (Nat.le_of_ble_eq_true rfl) dX7_init_23 ?_
    refine KG.eE (hEX_s g E (m := 32) (m2 := 63) [.ref (ad g 1), .null, .null, .null, .null] [.ref (ad g 1), .ref (ad g 32), .null, .null, .null] _ (by decide) (by decide)) ?_
    refine k_aload_n (pc := 26) F dX7_init_26 rfl ?_
    refine k_new (pc := 27) (ci := 4) (fs := [.null, .int 0]) F wcl_X7_19 win_X4 wz_X4 rfl uin_X4 tyX4_ok (fun j hj => match j, hj with | 0, _ => rfl | 1, _ => rfl | k + 2, h => absurd h (by omega)) (by decide) (by decide) dX7_init_27 ?_
    refine k_dup (pc := 30) F dX7_init_30 rfl ?_
    refine k_callI (pc := 31) (rf2 := 4) (rl2 := 73) (mc := 156) (ms := 885) (na := 0) F wl_X7_21 wi_X4_init wz_X4 wc_X4_init rfl (by decide) (by rfl) (by rfl) (Nat.le_of_ble_eq_true (by rfl)) (by decide) (by decide) dX7_init_31 (k_X4_init _ g _ (updE_self _ _ _)) ?_
    refine k_put (pc := 34) (k := 0) (j := 2) F hI (by omega) (by rw [fin_lo g _ (by omega), updE_ne _ _ (by omega)]; exact hEX_0 g E _ _) rfl uin_X7 (by decide) tyX7_ok nmX7 wf_X7_22 rfl rfl rfl rfl (Nat.le_of_ble_eq_true rfl) dX7_init_34 ?_
    refine KG.eE (hEX_s g E (m := 63) (m2 := 220) [.ref (ad g 1), .ref (ad g 32), .null, .null, .null] [.ref (ad g 1), .ref (ad g 32), .ref (ad g 63), .null, .null] _ (by decide) (by decide)) ?_
    refine k_aload_n (pc := 37) F dX7_init_37 rfl ?_
    refine k_new (pc := 38) (ci := 6) (fs := [.null, .int 0]) F wcl_X7_26 win_X6 wz_X6 rfl uin_X6 tyX6_ok (fun j hj => match j, hj with | 0, _ => rfl | 1, _ => rfl | k + 2, h => absurd h (by omega)) (by decide) (by decide) dX7_init_38 ?_
    refine k_dup (pc := 41) F dX7_init_41 rfl ?_
    refine k_callIN (pc := 42) (rf2 := 1) (rl2 := 12) (mc := 1) (ms := 60) (na := 0) F wn_X7_28 wi_X6_init wz_X6 wc_X6_init rfl (by decide) (by rfl) (by rfl) (Nat.le_of_ble_eq_true (by rfl)) (by decide) (by decide) dX7_init_42 (k_X6_init _ g _ (updE_self _ _ _)) ?_
    refine k_put (pc := 45) (k := 0) (j := 3) F hI (by omega) (by rw [fin_lo g _ (by omega), updE_ne _ _ (by omega)]; exact hEX_0 g E _ _) rfl uin_X7 (by decide) tyX7_ok nmX7 wf_X7_29 rfl rfl rfl rfl (Nat.le_of_ble_eq_true rfl) dX7_init_45 ?_
    refine KG.eE (hEX_s g E (m := 220) (m2 := 222) [.ref (ad g 1), .ref (ad g 32), .ref (ad g 63), .null, .null] [.ref (ad g 1), .ref (ad g 32), .ref (ad g 63), .ref (ad g 220), .null] _ (by decide) (by decide)) ?_
    refine k_aload_n (pc := 48) F dX7_init_48 rfl ?_
    refine k_new (pc := 49) (ci := 5) (fs := [.null, .null, .int 0, .int 0, .int 0, .int 0, .int 0]) F wcl_X7_33 win_X5 wz_X5 rfl uin_X5 tyX5_ok (fun j hj => match j, hj with | 0, _ => rfl | 1, _ => rfl | 2, _ => rfl | 3, _ => rfl | 4, _ => rfl | 5, _ => rfl | 6, _ => rfl | k + 7, h => absurd h (by omega)) (by decide) (by decide) dX7_init_49 ?_
    refine k_dup (pc := 52) F dX7_init_52 rfl ?_
    refine k_aload_n (pc := 53) F dX7_init_53 rfl ?_
    refine k_get (pc := 54) (k := 0) (j := 3) F (by omega) (by rw [updE_ne _ _ (by omega)]; exact hEX_0 g E _ _) rfl uin_X7 (by decide) wf_X7_29 rfl dX7_init_54 ?_
    refine k_callI (pc := 57) (rf2 := 1) (rl2 := 12) (mc := 1) (ms := 5) (na := 1) F wl_X7_35 wi_X5_init wz_X5 wc_X5_init rfl (by decide) (by rfl) (by rfl) (Nat.le_of_ble_eq_true (by rfl)) (by decide) (by decide) dX7_init_57 (k_X5_init _ g _ (updE_self _ _ _)) ?_
    refine k_put (pc := 60) (k := 0) (j := 4) F hI (by omega) (by rw [fin_lo g _ (by omega), updE_ne _ _ (by omega)]; exact hEX_0 g E _ _) rfl uin_X7 (by decide) tyX7_ok nmX7 wf_X7_38 rfl rfl rfl rfl (Nat.le_of_ble_eq_true rfl) dX7_init_60 ?_
    refine KG.eE (hEX_s g E (m := 222) (m2 := 224) [.ref (ad g 1), .ref (ad g 32), .ref (ad g 63), .ref (ad g 220), .null] [.ref (ad g 1), .ref (ad g 32), .ref (ad g 63), .ref (ad g 220), .ref (ad g 222)] _ (by decide) (by decide)) ?_
    refine KG.eE (E' := fin g E 0 224) ?_ (k_vret (pc := 63) F r dX7_init_63)
    funext k
    by_cases a0 : k = 0
    · rw [a0, hEX_0, fin_in g E (by omega) (by omega), w0_7 g]
    · by_cases a1 : k < 224
      · rw [hEX_in g E _ a0 a1, fin_in g E (by omega) a1]
      · rw [hEX_out g E _ a0 (by omega), fin_hi g E (by omega)]
