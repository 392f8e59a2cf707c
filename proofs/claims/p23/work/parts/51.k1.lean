/-! THE CONSTRUCTORS -/
/-- the memory as it is made: a hall draws from 1, the history's halls stand in their order, and so does the check's s -/
def M0 : Mem := fun k j => if kd k = 3 then (if j = 5 then 1 else 0) else if kd k = 17 then nI j else if k = 999 then (if j = 3 then 1 else 0) else 0
theorem M0_z {k : Nat} (h3 : kd k ≠ 3) (h17 : kd k ≠ 17) (hs : k ≠ 999) (j : Nat) : M0 k j = 0 := by
  unfold M0
  rw [if_neg h3, if_neg h17, if_neg hs]
theorem M0_zf {k : Nat} (h3 : kd k ≠ 3) (h17 : kd k ≠ 17) (hs : k ≠ 999) : M0 k = fun _ => 0 := funext fun j => M0_z h3 h17 hs j
theorem M0_h {k : Nat} (h3 : kd k = 3) (j : Nat) : M0 k j = if j = 5 then 1 else 0 := by
  unfold M0
  rw [if_pos h3]
def fin (g : Gm) (E : Nat → va_E) (a b : Nat) : Nat → va_E := fun k => if a ≤ k ∧ k < b then wE g M0 k else E k
theorem fin_in (g : Gm) (E : Nat → va_E) {a b k : Nat} (h1 : a ≤ k) (h2 : k < b) : fin g E a b k = wE g M0 k := if_pos ⟨h1, h2⟩
theorem fin_lo (g : Gm) (E : Nat → va_E) {a b k : Nat} (h : k < a) : fin g E a b k = E k := if_neg (by omega)
theorem fin_hi (g : Gm) (E : Nat → va_E) {a b k : Nat} (h : b ≤ k) : fin g E a b k = E k := if_neg (by omega)
theorem w0_0 (g : Gm) {k : Nat} (h : kd k = 0) : wE g M0 k = .inr (0, [.int 0, .ref (ad g (k + 1)), .int 0, .int 0, .int 0, .int 0, .int 0, .int 0, .ref (ad g (k + 2)), .ref (ad g (k + 3))]) := by
  rw [wE_obj g M0 h (by decide)]
  have z := M0_z (k := k) (by rw [h]; decide) (by rw [h]; decide) (fun e => by rw [e] at h; exact absurd h (by decide))
  simp only [tpl, wF, rv, z]
theorem w0_1 (g : Gm) {k : Nat} (h : kd k = 1) : wE g M0 k = .inr (1, [.int 0, .int 0, .int 0, .int 0, .int 0]) := by
  rw [wE_obj g M0 h (by decide)]
  have z := M0_z (k := k) (by rw [h]; decide) (by rw [h]; decide) (fun e => by rw [e] at h; exact absurd h (by decide))
  simp only [tpl, wF, rv, z]
theorem w0_2 (g : Gm) {k : Nat} (h : kd k = 2) : wE g M0 k = .inr (2, [.int 0, .int 0, .int 0, .int 0]) := by
  rw [wE_obj g M0 h (by decide)]
  have z := M0_z (k := k) (by rw [h]; decide) (by rw [h]; decide) (fun e => by rw [e] at h; exact absurd h (by decide))
  simp only [tpl, wF, rv, z]
theorem w0_3 (g : Gm) {k : Nat} (h : kd k = 3) : wE g M0 k = .inr (3, [.ref (ad g (k + 1)), .int 0, .ref (ad g (k + 2)), .int 0, .int 0, .int 1]) := by
  rw [wE_obj g M0 h (by decide)]
  have z := M0_h h
  simp only [tpl, wF, rv, z]
  rfl
theorem w0_9 (g : Gm) {k : Nat} (h : kd k = 9) : wE g M0 k = .inl (gC g 0, 4, .inl (fun _ => 0)) := by
  rw [wE_iarr g M0 h rfl, M0_zf (by rw [h]; decide) (by rw [h]; decide) (fun e => by rw [e] at h; exact absurd h (by decide))]
theorem w0_15 (g : Gm) {k : Nat} (h : kd k = 15) : wE g M0 k = rarr (gC g 2) 6 (fun j => some (ad g (k + 2 + 4 * j))) := by
  rw [wE_arr g M0 h (by decide)]
  rfl
theorem w0_16 (g : Gm) {k : Nat} (h : kd k = 16) : wE g M0 k = rarr (gC g 3) 4 (fun j => some (ad g (k + 25 + j))) := by
  rw [wE_arr g M0 h (by decide)]
  rfl
theorem updE_eq {E : Nat → va_E} {k : Nat} {x : va_E} (h : E k = x) : updE E k x = E := by
  funext a
  unfold updE
  split
  · next e => rw [e, h]
  · rfl
theorem wn_X3_27 : Cond.methodLinkNest RX3 27 yX0_init "RenewalClocks" ∈ nestW := List.mem_of_getElem? (i := 0) rfl
theorem wn_X0_17 : Cond.methodLinkNest RX0 17 yX1_init "RenewalClocks" ∈ nestW := List.mem_of_getElem? (i := 1) rfl
theorem wn_X3_28 : Cond.methodLinkNest RX3 28 yX2_init "RenewalClocks" ∈ nestW := List.mem_of_getElem? (i := 13) rfl
theorem wn_X7_28 : Cond.methodLinkNest RX7 28 yX6_init "RenewalClocks" ∈ nestW := List.mem_of_getElem? (i := 25) rfl
set_option maxHeartbeats 4000000 in
set_option maxRecDepth 100000 in
theorem k_X1_init (l : Launch) (g : Gm) (E : Nat → va_E) (n c : Nat) : KCn l yX1_init cX1_init 1 1 12 0 0 g [.ref (ad g c)] E n E n := by
  refine KCn.intro (lv0 := [some (.ref (ad g c))]) 0 (by decide +kernel) rfl (Nat.le_of_ble_eq_true rfl) rfl (fun X F r hI => ?_)
  refine k_aload_n (pc := 0) F dX1_init_0 rfl ?_
  refine k_objInit (pc := 1) F wl_X1_1 (by decide) (by decide) dX1_init_1 ?_
  exact k_vret (pc := 4) F r dX1_init_4

set_option maxHeartbeats 4000000 in
set_option maxRecDepth 100000 in
theorem k_X2_init (l : Launch) (g : Gm) (E : Nat → va_E) (n c : Nat) : KCn l yX2_init cX2_init 1 1 12 0 0 g [.ref (ad g c)] E n E n := by
  refine KCn.intro (lv0 := [some (.ref (ad g c))]) 0 (by decide +kernel) rfl (Nat.le_of_ble_eq_true rfl) rfl (fun X F r hI => ?_)
  refine k_aload_n (pc := 0) F dX2_init_0 rfl ?_
  refine k_objInit (pc := 1) F wl_X2_1 (by decide) (by decide) dX2_init_1 ?_
  exact k_vret (pc := 4) F r dX2_init_4

set_option maxHeartbeats 4000000 in
set_option maxRecDepth 100000 in
theorem k_X0_init (l : Launch) (g : Gm) (E : Nat → va_E) (c : Nat) (hc : kd c = 0) (hE : E c = .inr (0, [.int 0, .null, .int 0, .int 0, .int 0, .int 0, .int 0, .int 0, .null, .null])) : KCn l yX0_init cX0_init 1 2 32 3 14 g [.ref (ad g c)] E (c + 1) (fin g E c (c + 4)) (c + 4) := by
  refine KCn.intro (lv0 := [some (.ref (ad g c))]) 0 (by decide +kernel) rfl (Nat.le_of_ble_eq_true rfl) rfl (fun X F r hI => ?_)
  refine k_aload_n (pc := 0) F dX0_init_0 rfl ?_
  refine k_objInit (pc := 1) F wl_X0_3 (by decide) (by decide) dX0_init_1 ?_
  refine k_aload_n (pc := 4) F dX0_init_4 rfl ?_
  refine k_iconst (pc := 5) (v := 4) F dX0_init_5 (by decide) ?_
  refine k_newi (pc := 6) (N := 4) F rfl (by decide) (by decide) (by decide) dX0_init_6 ?_
  refine k_put (pc := 8) (k := c) (j := 1) F hI (by omega) (by rw [updE_ne _ _ (by omega)]; exact hE) rfl uin_X0 (by decide) tyX0_ok nmX0 wf_X0_9 rfl rfl rfl rfl (Nat.le_of_ble_eq_true rfl) dX0_init_8 ?_
  refine k_aload_n (pc := 11) F dX0_init_11 rfl ?_
  refine k_new (pc := 12) (ci := 1) (fs := [.int 0, .int 0, .int 0, .int 0, .int 0]) F wcl_X0_15 win_X1 wz_X1 rfl uin_X1 tyX1_ok (fun j hj => match j, hj with | 0, _ => rfl | 1, _ => rfl | 2, _ => rfl | 3, _ => rfl | 4, _ => rfl | k + 5, h => absurd h (by omega)) (by decide) (by decide) dX0_init_12 ?_
  refine k_dup (pc := 15) F dX0_init_15 rfl ?_
  refine k_callIN (pc := 16) (rf2 := 1) (rl2 := 12) (mc := 0) (ms := 0) (na := 0) F wn_X0_17 wi_X1_init wz_X1 wc_X1_init rfl (by decide) (by rfl) (by rfl) (Nat.le_of_ble_eq_true (by rfl)) (by decide) (by decide) dX0_init_16 (k_X1_init _ g _ (c + 3) (c + 2)) ?_
  refine k_put (pc := 19) (k := c) (j := 8) F hI (by omega) (by rw [updE_ne _ _ (by omega), updE_self] <;> rfl) rfl uin_X0 (by decide) tyX0_ok nmX0 wf_X0_18 rfl rfl rfl rfl (Nat.le_of_ble_eq_true rfl) dX0_init_19 ?_
  refine k_aload_n (pc := 22) F dX0_init_22 rfl ?_
  refine k_new (pc := 23) (ci := 1) (fs := [.int 0, .int 0, .int 0, .int 0, .int 0]) F wcl_X0_15 win_X1 wz_X1 rfl uin_X1 tyX1_ok (fun j hj => match j, hj with | 0, _ => rfl | 1, _ => rfl | 2, _ => rfl | 3, _ => rfl | 4, _ => rfl | k + 5, h => absurd h (by omega)) (by decide) (by decide) dX0_init_23 ?_
  refine k_dup (pc := 26) F dX0_init_26 rfl ?_
  refine k_callIN (pc := 27) (rf2 := 1) (rl2 := 12) (mc := 0) (ms := 0) (na := 0) F wn_X0_17 wi_X1_init wz_X1 wc_X1_init rfl (by decide) (by rfl) (by rfl) (Nat.le_of_ble_eq_true (by rfl)) (by decide) (by decide) dX0_init_27 (k_X1_init _ g _ (c + 4) (c + 3)) ?_
  refine k_put (pc := 30) (k := c) (j := 9) F hI (by omega) (by rw [updE_ne _ _ (by omega), updE_self] <;> rfl) rfl uin_X0 (by decide) tyX0_ok nmX0 wf_X0_22 rfl rfl rfl rfl (Nat.le_of_ble_eq_true rfl) dX0_init_30 ?_
  refine KG.eE (E' := fin g E c (c + 4)) ?_ ?_
  · obtain ⟨h1, h2, h3⟩ := kd_clk hc
    funext k
    by_cases a0 : k = c
    · subst a0
      rw [updE_self, fin_in g E (by omega) (by omega), w0_0 g hc]
      rfl
    · by_cases a3 : k = c + 3
      · subst a3
        rw [updE_ne _ _ (by omega), updE_self, fin_in g E (by omega) (by omega), w0_1 g h3]
      · by_cases a2 : k = c + 2
        · subst a2
          rw [updE_ne _ _ (by omega), updE_ne _ _ (by omega), updE_ne _ _ (by omega), updE_self, fin_in g E (by omega) (by omega), w0_1 g h2]
        · by_cases a1 : k = c + 1
          · subst a1
            rw [updE_ne _ _ (by omega), updE_ne _ _ (by omega), updE_ne _ _ (by omega), updE_ne _ _ (by omega), updE_ne _ _ (by omega), updE_self, fin_in g E (by omega) (by omega), w0_9 g h1]
          · rw [updE_ne _ _ a0, updE_ne _ _ a3, updE_ne _ _ a0, updE_ne _ _ a2, updE_ne _ _ a0, updE_ne _ _ a1]
            exact (if_neg (by omega)).symm
  · exact k_vret (pc := 33) F r dX0_init_33
