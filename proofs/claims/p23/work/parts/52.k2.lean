/-! a hall is made: its clocks, its groups -/
def hallF (g : Gm) (h : Nat) : va_E := .inr (3, [.ref (ad g (h + 1)), .int 0, .ref (ad g (h + 2)), .int 0, .int 0, .int 1])
def hEA (g : Gm) (E : Nat → va_E) (h i : Nat) : Nat → va_E := fun k => if k = h then hallF g h else if k = h + 1 then rarr (gC g 2) 6 (fun j => if j < i then some (ad g (h + 3 + 4 * j)) else none) else if k = h + 2 then rarr (gC g 3) 4 (fun _ => none) else if h + 3 ≤ k ∧ k < h + 3 + 4 * i then wE g M0 k else E k
def hEB (g : Gm) (E : Nat → va_E) (h i : Nat) : Nat → va_E := fun k => if k = h then hallF g h else if k = h + 1 then rarr (gC g 2) 6 (fun j => some (ad g (h + 3 + 4 * j))) else if k = h + 2 then rarr (gC g 3) 4 (fun j => if j < i then some (ad g (h + 27 + j)) else none) else if h + 3 ≤ k ∧ k < h + 27 + i then wE g M0 k else E k
theorem hEA_h (g : Gm) (E : Nat → va_E) (h i : Nat) : hEA g E h i h = hallF g h := if_pos rfl
theorem hEA_1 (g : Gm) (E : Nat → va_E) (h i : Nat) : hEA g E h i (h + 1) = rarr (gC g 2) 6 (fun j => if j < i then some (ad g (h + 3 + 4 * j)) else none) := (if_neg (by omega)).trans (if_pos rfl)
theorem hEA_2 (g : Gm) (E : Nat → va_E) (h i : Nat) : hEA g E h i (h + 2) = rarr (gC g 3) 4 (fun _ => none) := (if_neg (by omega)).trans ((if_neg (by omega)).trans (if_pos rfl))
theorem hEA_in (g : Gm) (E : Nat → va_E) {h i k : Nat} (h1 : h + 3 ≤ k) (h2 : k < h + 3 + 4 * i) : hEA g E h i k = wE g M0 k := (if_neg (by omega)).trans ((if_neg (by omega)).trans ((if_neg (by omega)).trans (if_pos ⟨h1, h2⟩)))
theorem hEA_out (g : Gm) (E : Nat → va_E) {h i k : Nat} (h1 : k < h ∨ (h + 3 ≤ k ∧ h + 3 + 4 * i ≤ k)) : hEA g E h i k = E k := (if_neg (by omega)).trans ((if_neg (by omega)).trans ((if_neg (by omega)).trans (if_neg (by omega))))
theorem hEB_h (g : Gm) (E : Nat → va_E) (h i : Nat) : hEB g E h i h = hallF g h := if_pos rfl
theorem hEB_1 (g : Gm) (E : Nat → va_E) (h i : Nat) : hEB g E h i (h + 1) = rarr (gC g 2) 6 (fun j => some (ad g (h + 3 + 4 * j))) := (if_neg (by omega)).trans (if_pos rfl)
theorem hEB_2 (g : Gm) (E : Nat → va_E) (h i : Nat) : hEB g E h i (h + 2) = rarr (gC g 3) 4 (fun j => if j < i then some (ad g (h + 27 + j)) else none) := (if_neg (by omega)).trans ((if_neg (by omega)).trans (if_pos rfl))
theorem hEB_in (g : Gm) (E : Nat → va_E) {h i k : Nat} (h1 : h + 3 ≤ k) (h2 : k < h + 27 + i) : hEB g E h i k = wE g M0 k := (if_neg (by omega)).trans ((if_neg (by omega)).trans ((if_neg (by omega)).trans (if_pos ⟨h1, h2⟩)))
theorem hEB_out (g : Gm) (E : Nat → va_E) {h i k : Nat} (h1 : k < h ∨ (h + 3 ≤ k ∧ h + 27 + i ≤ k)) : hEB g E h i k = E k := (if_neg (by omega)).trans ((if_neg (by omega)).trans ((if_neg (by omega)).trans (if_neg (by omega))))
/-- where a place stands to a hall -/
theorem h_case (h k : Nat) : k = h ∨ k = h + 1 ∨ k = h + 2 ∨ (k < h ∨ h + 3 ≤ k) := by omega
theorem hEA_0 (g : Gm) (E : Nat → va_E) (h : Nat) (o1 o2 : va_E) : updE (updE (updE (updE (updE E (h + 1) (rarr (gC g 2) 6 (fun _ => none))) h o1) (h + 1 + 1) (rarr (gC g 3) 4 (fun _ => none))) h o2) h (hallF g h) = hEA g E h 0 := by
  funext k
  rcases h_case h k with rfl | rfl | rfl | hk
  · rw [updE_self, hEA_h]
  · rw [updE_ne _ _ (by omega), updE_ne _ _ (by omega), updE_ne _ _ (by omega), updE_ne _ _ (by omega), updE_self, hEA_1]
    congr
  · rw [updE_ne _ _ (by omega), updE_ne _ _ (by omega), hEA_2]
    exact updE_self _ _ _
  · rw [updE_ne _ _ (by omega), updE_ne _ _ (by omega), updE_ne _ _ (by omega), updE_ne _ _ (by omega), updE_ne _ _ (by omega), hEA_out g E (by omega)]
theorem up_lt {f : Nat → Option Nat} (v : Nat → Nat) (i : Nat) (hf : ∀ j, f j = if j < i then some (v j) else none) : va_up f i (some (v i)) = fun j => if j < i + 1 then some (v j) else none := by
  funext j
  unfold va_up
  by_cases h : j = i
  · rw [if_pos h, if_pos (by omega), h]
  · rw [if_neg h, hf]
    by_cases h2 : j < i
    · rw [if_pos h2, if_pos (by omega)]
    · rw [if_neg h2, if_neg (by omega)]
theorem hEA_s (g : Gm) (E : Nat → va_E) (h i : Nat) (d : va_E) : updE (fin g (updE (hEA g E h i) (h + 3 + 4 * i) d) (h + 3 + 4 * i) (h + 3 + 4 * i + 4)) (h + 1) (rarr (gC g 2) 6 (va_up (fun j => if j < i then some (ad g (h + 3 + 4 * j)) else none) i (some (ad g (h + 3 + 4 * i))))) = hEA g E h (i + 1) := by
  funext k
  rcases h_case h k with rfl | rfl | rfl | hk
  · rw [updE_ne _ _ (by omega), fin_lo g _ (by omega), updE_ne _ _ (by omega), hEA_h, hEA_h]
  · rw [updE_self, hEA_1, up_lt (fun j => ad g (h + 3 + 4 * j)) i (fun _ => rfl)]
  · rw [updE_ne _ _ (by omega), fin_lo g _ (by omega), updE_ne _ _ (by omega), hEA_2, hEA_2]
  · rw [updE_ne _ _ (by omega)]
    by_cases h1 : h + 3 ≤ k ∧ k < h + 3 + 4 * i
    · rw [fin_lo g _ (by omega), updE_ne _ _ (by omega), hEA_in g E h1.1 h1.2, hEA_in g E h1.1 (by omega)]
    · by_cases h2 : h + 3 + 4 * i ≤ k ∧ k < h + 3 + 4 * i + 4
      · rw [fin_in g _ h2.1 h2.2, hEA_in g E (by omega) (by omega)]
      · have e : fin g (updE (hEA g E h i) (h + 3 + 4 * i) d) (h + 3 + 4 * i) (h + 3 + 4 * i + 4) k = updE (hEA g E h i) (h + 3 + 4 * i) d k := if_neg h2
        rw [e, updE_ne _ _ (by omega), hEA_out g E (by omega), hEA_out g E (by omega)]
theorem hEAB (g : Gm) (E : Nat → va_E) (h k : Nat) : eqE (hEA g E h 6 k) (hEB g E h 0 k) := by
  rcases h_case h k with rfl | rfl | rfl | hk
  · rw [hEA_h, hEB_h]
    exact Or.inl rfl
  · rw [hEA_1, hEB_1]
    exact Or.inr ⟨_, _, _, _, rfl, rfl, fun j hj => if_pos hj⟩
  · rw [hEA_2, hEB_2]
    exact Or.inl (by congr)
  · by_cases h1 : h + 3 ≤ k ∧ k < h + 27
    · rw [hEA_in g E h1.1 (by omega), hEB_in g E h1.1 (by omega)]
      exact Or.inl rfl
    · rw [hEA_out g E (by omega), hEB_out g E (by omega)]
      exact Or.inl rfl
theorem hEB_s (g : Gm) (E : Nat → va_E) {h i : Nat} (hk2 : kd (h + 27 + i) = 2) : updE (updE (hEB g E h i) (h + 27 + i) (.inr (2, [.int 0, .int 0, .int 0, .int 0]))) (h + 2) (rarr (gC g 3) 4 (va_up (fun j => if j < i then some (ad g (h + 27 + j)) else none) i (some (ad g (h + 27 + i))))) = hEB g E h (i + 1) := by
  funext k
  rcases h_case h k with rfl | rfl | rfl | hk
  · rw [updE_ne _ _ (by omega), updE_ne _ _ (by omega), hEB_h, hEB_h]
  · rw [updE_ne _ _ (by omega), updE_ne _ _ (by omega), hEB_1, hEB_1]
  · rw [updE_self, hEB_2, up_lt (fun j => ad g (h + 27 + j)) i (fun _ => rfl)]
  · rw [updE_ne _ _ (by omega)]
    by_cases h2 : k = h + 27 + i
    · rw [h2, updE_self, hEB_in g E (by omega) (by omega), w0_2 g hk2]
    · rw [updE_ne _ _ h2]
      by_cases h1 : h + 3 ≤ k ∧ k < h + 27 + i
      · rw [hEB_in g E h1.1 h1.2, hEB_in g E h1.1 (by omega)]
      · rw [hEB_out g E (by omega), hEB_out g E (by omega)]
theorem hEB_f (g : Gm) (E : Nat → va_E) {h : Nat} (hh : kd h = 3) (k : Nat) : eqE (hEB g E h 4 k) (fin g E h (h + 31) k) := by
  obtain ⟨k1, k2, -, -⟩ := kd_hall hh
  rcases h_case h k with rfl | rfl | rfl | hk
  · rw [hEB_h, fin_in g E (by omega) (by omega), w0_3 g hh]
    exact Or.inl rfl
  · rw [hEB_1, fin_in g E (by omega) (by omega), w0_15 g k1]
    exact Or.inr ⟨_, _, _, _, rfl, rfl, fun j _ => by rw [show h + 1 + 2 + 4 * j = h + 3 + 4 * j by omega]⟩
  · rw [hEB_2, fin_in g E (by omega) (by omega), w0_16 g k2]
    exact Or.inr ⟨_, _, _, _, rfl, rfl, fun j hj => by rw [if_pos hj, show h + 2 + 25 + j = h + 27 + j by omega]⟩
  · by_cases h1 : h + 3 ≤ k ∧ k < h + 31
    · rw [hEB_in g E h1.1 (by omega), fin_in g E (by omega) (by omega)]
      exact Or.inl rfl
    · rw [hEB_out g E (by omega)]
      refine Or.inl ?_
      exact (if_neg (by omega)).symm
set_option maxHeartbeats 4000000 in
set_option maxRecDepth 100000 in
theorem k_X3_init (l : Launch) (g : Gm) (E : Nat → va_E) (h : Nat) (hh : kd h = 3) (hE : E h = .inr (3, [.null, .int 0, .null, .int 0, .int 0, .int 0])) : KCn l yX3_init cX3_init 2 3 52 30 170 g [.ref (ad g h)] E (h + 1) (fin g E h (h + 31)) (h + 31) := by
  refine KCn.intro (lv0 := [some (.ref (ad g h)), none]) 1 (by decide +kernel) rfl (Nat.le_of_ble_eq_true rfl) rfl (fun X F r hI => ?_)
  have L2 : ∀ (n i : Nat) (y : Int32), i + n = 4 → y = nI i → KG X g 2 (hEB g E h i) (h + 27 + i) (26 + i) (154 + 4 * i) 58 [some (.ref (ad g h)), some (.int y)] [] := by
    intro n
    induction n with
    | zero =>
      intro i y hin hy
      obtain rfl : i = 4 := by omega
      refine k_iload_n (pc := 58) F dX3_init_58 rfl ?_
      refine k_aload_n (pc := 59) F dX3_init_59 rfl ?_
      refine k_get (pc := 60) (k := h) (j := 2) F (by omega) (hEB_h g E h 4) rfl uin_X3 (by decide) wf_X3_19 rfl dX3_init_60 ?_
      refine k_alen (pc := 63) (k := h + 2) (t0 := 3) F (by omega) (hEB_2 g E h 4) rfl rfl dX3_init_63 ?_
      refine k_icmp_ge (pc := 64) (tgt := 86) F dX3_init_64 (by decide) (fun c64 => ?_) (fun c64 => ?_)
      · refine KG.eqv (fun k _ => hEB_f g E hh k) ?_
        refine KG.cnt (n' := h + 31) (cs' := 30) (sl' := 170) (by omega) (by omega) (by omega) ?_
        exact k_vret (pc := 86) F r dX3_init_86
      · exact absurd (by rw [hy]; exact nI_le (a := 4) (b := 4) (by decide) (by decide)) c64
    | succ n ih =>
      intro i y hin hy
      refine k_iload_n (pc := 58) F dX3_init_58 rfl ?_
      refine k_aload_n (pc := 59) F dX3_init_59 rfl ?_
      refine k_get (pc := 60) (k := h) (j := 2) F (by omega) (hEB_h g E h i) rfl uin_X3 (by decide) wf_X3_19 rfl dX3_init_60 ?_
      refine k_alen (pc := 63) (k := h + 2) (t0 := 3) F (by omega) (hEB_2 g E h i) rfl rfl dX3_init_63 ?_
      refine k_icmp_ge (pc := 64) (tgt := 86) F dX3_init_64 (by decide) (fun c64 => ?_) (fun c64 => ?_)
      · exact absurd c64 (by rw [hy]; exact nI_ge (a := i) (b := 4) (by omega) (by decide))
      · refine k_aload_n (pc := 67) F dX3_init_67 rfl ?_
        refine k_get (pc := 68) (k := h) (j := 2) F (by omega) (hEB_h g E h i) rfl uin_X3 (by decide) wf_X3_19 rfl dX3_init_68 ?_
        refine k_iload_n (pc := 71) F dX3_init_71 rfl ?_
        refine k_new (pc := 72) (ci := 2) (fs := [.int 0, .int 0, .int 0, .int 0]) F wcl_X3_17 win_X2 wz_X2 rfl uin_X2 tyX2_ok (fun j hj => match j, hj with | 0, _ => rfl | 1, _ => rfl | 2, _ => rfl | 3, _ => rfl | k + 4, h => absurd h (by omega)) (by omega) (by omega) dX3_init_72 ?_
        refine k_dup (pc := 75) F dX3_init_75 rfl ?_
        refine k_callIN (pc := 76) (rf2 := 1) (rl2 := 12) (mc := 0) (ms := 0) (na := 0) F wn_X3_28 wi_X2_init wz_X2 wc_X2_init rfl (by decide) (by rfl) (by rfl) (Nat.le_of_ble_eq_true (by rfl)) (by decide) ⟨by omega, by omega⟩ dX3_init_76 (k_X2_init _ g _ (h + 27 + i + 1) (h + 27 + i)) ?_
        refine k_aast (pc := 79) (k := h + 2) (kv := h + 27 + i) (t0 := 3) (ci := 2) (r := (RX2, TX2, 4)) (N := 4) (q := i) F (by omega) (by rw [updE_ne _ _ (by omega)]; exact hEB_2 g E h i) rfl (by omega) (updE_self _ _ _) rfl hy (by omega) (by decide) dX3_init_79 ?_
        refine k_iinc (pc := 80) F dX3_init_80 rfl rfl (by decide) rfl ?_
        refine k_goto (pc := 83) (tgt := 58) F dX3_init_83 (by decide) ?_
        refine KG.eE (hEB_s g E ((kd_hall hh).2.2.2 i (by omega))) ?_
        refine KG.cnt (n' := h + 27 + (i + 1)) (cs' := 26 + (i + 1)) (sl' := 154 + 4 * (i + 1)) (by omega) (by omega) (by omega) ?_
        exact ih (i + 1) _ (by omega) (by rw [hy]; exact nI_1 i)
  have L1 : ∀ (n i : Nat) (y : Int32), i + n = 6 → y = nI i → KG X g 2 (hEA g E h i) (h + 3 + 4 * i) (2 + 4 * i) (10 + 24 * i) 28 [some (.ref (ad g h)), some (.int y)] [] := by
    intro n
    induction n with
    | zero =>
      intro i y hin hy
      obtain rfl : i = 6 := by omega
      refine k_iload_n (pc := 28) F dX3_init_28 rfl ?_
      refine k_aload_n (pc := 29) F dX3_init_29 rfl ?_
      refine k_get (pc := 30) (k := h) (j := 0) F (by omega) (hEA_h g E h 6) rfl uin_X3 (by decide) wf_X3_11 rfl dX3_init_30 ?_
      refine k_alen (pc := 33) (k := h + 1) (t0 := 2) F (by omega) (hEA_1 g E h 6) rfl rfl dX3_init_33 ?_
      refine k_icmp_ge (pc := 34) (tgt := 56) F dX3_init_34 (by decide) (fun c34 => ?_) (fun c34 => ?_)
      · refine k_iconst (pc := 56) (v := 0) F dX3_init_56 (by decide) ?_
        refine k_istore_n (pc := 57) F dX3_init_57 (by decide) rfl ?_
        refine KG.eqv (fun k _ => hEAB g E h k) ?_
        refine KG.cnt (n' := h + 27 + 0) (cs' := 26 + 0) (sl' := 154 + 4 * 0) (by omega) (by omega) (by omega) ?_
        exact L2 4 0 _ (by omega) nI_0.symm
      · exact absurd (by rw [hy]; exact nI_le (a := 6) (b := 6) (by decide) (by decide)) c34
    | succ n ih =>
      intro i y hin hy
      have hkc := (kd_hall hh).2.2.1 i (by omega)
      refine k_iload_n (pc := 28) F dX3_init_28 rfl ?_
      refine k_aload_n (pc := 29) F dX3_init_29 rfl ?_
      refine k_get (pc := 30) (k := h) (j := 0) F (by omega) (hEA_h g E h i) rfl uin_X3 (by decide) wf_X3_11 rfl dX3_init_30 ?_
      refine k_alen (pc := 33) (k := h + 1) (t0 := 2) F (by omega) (hEA_1 g E h i) rfl rfl dX3_init_33 ?_
      refine k_icmp_ge (pc := 34) (tgt := 56) F dX3_init_34 (by decide) (fun c34 => ?_) (fun c34 => ?_)
      · exact absurd c34 (by rw [hy]; exact nI_ge (a := i) (b := 6) (by omega) (by decide))
      · refine k_aload_n (pc := 37) F dX3_init_37 rfl ?_
        refine k_get (pc := 38) (k := h) (j := 0) F (by omega) (hEA_h g E h i) rfl uin_X3 (by decide) wf_X3_11 rfl dX3_init_38 ?_
        refine k_iload_n (pc := 41) F dX3_init_41 rfl ?_
        refine k_new (pc := 42) (ci := 0) (fs := [.int 0, .null, .int 0, .int 0, .int 0, .int 0, .int 0, .int 0, .null, .null]) F wcl_X3_9 win_X0 wz_X0 rfl uin_X0 tyX0_ok (fun j hj => match j, hj with | 0, _ => rfl | 1, _ => rfl | 2, _ => rfl | 3, _ => rfl | 4, _ => rfl | 5, _ => rfl | 6, _ => rfl | 7, _ => rfl | 8, _ => rfl | 9, _ => rfl | k + 10, h => absurd h (by omega)) (by omega) (by omega) dX3_init_42 ?_
        refine k_dup (pc := 45) F dX3_init_45 rfl ?_
        refine k_callIN (pc := 46) (rf2 := 2) (rl2 := 32) (mc := 3) (ms := 14) (na := 0) F wn_X3_27 wi_X0_init wz_X0 wc_X0_init rfl (by decide) (by rfl) (by rfl) (Nat.le_of_ble_eq_true (by rfl)) (by decide) ⟨by omega, by omega⟩ dX3_init_46 (k_X0_init _ g _ (h + 3 + 4 * i) hkc (updE_self _ _ _)) ?_
        refine k_aast (pc := 49) (k := h + 1) (kv := h + 3 + 4 * i) (t0 := 2) (ci := 0) (r := (RX0, TX0, 10)) (N := 6) (q := i) F (by omega) (by rw [fin_lo g _ (by omega), updE_ne _ _ (by omega)]; exact hEA_1 g E h i) rfl (by omega) (by rw [fin_in g _ (Nat.le_refl _) (by omega)]; exact w0_0 g hkc) rfl hy (by omega) (by decide) dX3_init_49 ?_
        refine k_iinc (pc := 50) F dX3_init_50 rfl rfl (by decide) rfl ?_
        refine k_goto (pc := 53) (tgt := 28) F dX3_init_53 (by decide) ?_
        refine KG.eE (hEA_s g E h i _) ?_
        refine KG.cnt (n' := h + 3 + 4 * (i + 1)) (cs' := 2 + 4 * (i + 1)) (sl' := 10 + 24 * (i + 1)) (by omega) (by omega) (by omega) ?_
        exact ih (i + 1) _ (by omega) (by rw [hy]; exact nI_1 i)
  refine k_aload_n (pc := 0) F dX3_init_0 rfl ?_
  refine k_objInit (pc := 1) F wl_X3_3 (by decide) (by decide) dX3_init_1 ?_
  refine k_aload_n (pc := 4) F dX3_init_4 rfl ?_
  refine k_bipush (pc := 5) (v := 6) F dX3_init_5 (by decide) ?_
  refine k_anew (pc := 7) (t0 := 2) (N := 6) F wcl_X3_9 (fun _ h => h.2.2.1) rfl rfl (by decide) (by decide) (by decide) dX3_init_7 ?_
  refine k_put (pc := 10) (k := h) (j := 0) F hI (by omega) (by rw [updE_ne _ _ (by omega)]; exact hE) rfl uin_X3 (by decide) tyX3_ok nmX3 wf_X3_11 rfl rfl rfl rfl (Nat.le_of_ble_eq_true rfl) dX3_init_10 ?_
  refine k_aload_n (pc := 13) F dX3_init_13 rfl ?_
  refine k_iconst (pc := 14) (v := 4) F dX3_init_14 (by decide) ?_
  refine k_anew (pc := 15) (t0 := 3) (N := 4) F wcl_X3_17 (fun _ h => h.2.2.2.1) rfl rfl (by decide) (by decide) (by decide) dX3_init_15 ?_
  refine k_put (pc := 18) (k := h) (j := 2) F hI (by omega) (by rw [updE_ne _ _ (by omega), updE_self] <;> rfl) rfl uin_X3 (by decide) tyX3_ok nmX3 wf_X3_19 rfl rfl rfl rfl (Nat.le_of_ble_eq_true rfl) dX3_init_18 ?_
  refine k_aload_n (pc := 21) F dX3_init_21 rfl ?_
  refine k_iconst (pc := 22) (v := 1) F dX3_init_22 (by decide) ?_
  refine k_put (pc := 23) (k := h) (j := 5) F hI (by omega) (by rw [updE_self] <;> rfl) rfl uin_X3 (by decide) tyX3_ok nmX3 wf_X3_23 rfl rfl rfl rfl (Nat.le_of_ble_eq_true rfl) dX3_init_23 ?_
  refine k_iconst (pc := 26) (v := 0) F dX3_init_26 (by decide) ?_
  refine k_istore_n (pc := 27) F dX3_init_27 (by decide) rfl ?_
  refine KG.eE (hEA_0 g E h _ _) ?_
  refine KG.cnt (n' := h + 3 + 4 * 0) (cs' := 2 + 4 * 0) (sl' := 10 + 24 * 0) (by omega) (by omega) (by omega) ?_
  exact L1 6 0 _ (by omega) nI_0.symm
