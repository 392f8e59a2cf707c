/-! THE START: the class's object is made, and the check's; then the loop -/
theorem ws_tbl {w : Cond} (h : w ∈ lw_ws) : w ∈ lw_tbl := (List.mem_filter.mp h).1
theorem nest_tbl {w : Cond} (h : w ∈ nestW) : w ∈ lw_tbl := by
  rw [nestW_tbl] at h
  obtain ⟨i, -, hi⟩ := List.mem_filterMap.mp h
  exact List.mem_of_getElem? hi
theorem nest_on {w : Cond} (h : w ∈ nestW) : w.onTables = true := by
  have h1 := nest_kind w h
  cases w <;> first | rfl | cases h1
theorem arr_prim {s : State} {args : Array Value} {ty : FieldType} (h : (Cond.arrayClass ty).before args s = true) (hR : ∀ cA, s.vm.findClass ("[" ++ ty.toString) = some cA → va_RA s cA ty) : ∃ cA, ArrOfT s cA ty ∧ va_RA s cA ty := by
  obtain ⟨cA, kA, comp, h1, h2, h3⟩ := Cond.arrayClass_spec h
  exact ⟨cA, fun n z => ⟨fun k h => (by cases h), kA, h2, comp, h3⟩, hR cA h1⟩
theorem arr_obj {s : State} {args : Array Value} {C : String} (h : (Cond.arrayOver (.object C)).before args s = true) : ∃ cA, ArrOfT s cA (.object C) ∧ va_RA s cA (.object C) := by
  obtain ⟨comp, cA, kA, h1, h2, h3, h4, h5⟩ := Cond.arrayOver_spec h
  exact ⟨cA, fun n z => ⟨fun k h => (by cases h), kA, h3, comp, h4⟩, kA, comp, h3, h4, h1, h5⟩
set_option maxHeartbeats 4000000 in
set_option maxRecDepth 100000 in
theorem law_known {s : State} {args : Array Value} (hts : ∀ w ∈ lw_tbl, w.before args s = true) : ∃ g : Gm, cOK g s ∧ gB g = s.heap.size := by
  have hws : ∀ w ∈ lw_ws, w.before args s = true := fun w h => hts w (ws_tbl h)
  obtain ⟨c0, i0, hKn0⟩ := u_known (C := RX0) (T := TX0) (N := 10) (n := 10) hws uin_X0 (hws _ win_X0)
  obtain ⟨c1, i1, hKn1⟩ := u_known (C := RX1) (T := TX1) (N := 5) (n := 5) hws uin_X1 (hws _ win_X1)
  obtain ⟨c2, i2, hKn2⟩ := u_known (C := RX2) (T := TX2) (N := 4) (n := 4) hws uin_X2 (hws _ win_X2)
  obtain ⟨c3, i3, hKn3⟩ := u_known (C := RX3) (T := TX3) (N := 6) (n := 6) hws uin_X3 (hws _ win_X3)
  obtain ⟨c4, i4, hKn4⟩ := u_known (C := RX4) (T := TX4) (N := 2) (n := 2) hws uin_X4 (hws _ win_X4)
  obtain ⟨c5, i5, hKn5⟩ := u_known (C := RX5) (T := TX5) (N := 7) (n := 7) hws uin_X5 (hws _ win_X5)
  obtain ⟨c6, i6, hKn6⟩ := u_known (C := RX6) (T := TX6) (N := 2) (n := 2) hws uin_X6 (hws _ win_X6)
  obtain ⟨c7, i7, hKn7⟩ := u_known (C := RX7) (T := TX7) (N := 5) (n := 5) hws uin_X7 (hws _ win_X7)
  obtain ⟨c8, i8, hKn8⟩ := u_known (C := RX8) (T := TX8) (N := 15) (n := 15) hws uin_X8 (hws _ win_X8)
  obtain ⟨a0, p0, q0⟩ := arr_prim (hws _ wac_int) (fun _ h => h)
  obtain ⟨a1, p1, q1⟩ := arr_prim (hws _ wac_char) (fun _ h => h)
  have v0 := hts (.arrayOver (.object RX0)) (by decide +kernel)
  have v2 := hts (.arrayOver (.object RX2)) (by decide +kernel)
  have v3 := hts (.arrayOver (.object RX3)) (by decide +kernel)
  obtain ⟨a2, p2, q2⟩ := arr_obj v0
  obtain ⟨a3, p3, q3⟩ := arr_obj v2
  obtain ⟨a4, p4, q4⟩ := arr_obj v3
  refine ⟨((fun k => if k = 0 then c0 else if k = 1 then c1 else if k = 2 then c2 else if k = 3 then c3 else if k = 4 then c4 else if k = 5 then c5 else if k = 6 then c6 else if k = 7 then c7 else c8, fun k => if k = 0 then i0 else if k = 1 then i1 else if k = 2 then i2 else if k = 3 then i3 else if k = 4 then i4 else if k = 5 then i5 else if k = 6 then i6 else if k = 7 then i7 else i8), (fun k => if k = 0 then a0 else if k = 1 then a1 else if k = 2 then a2 else if k = 3 then a3 else a4), (fun k => s.heap.size + k), s.heap.size), ⟨⟨fun i j _ _ e => ?_, fun k _ => Nat.le_add_right _ _, ⟨fun k q hq => ?_, fun k q hq => ?_⟩, fun w hw => va_Nw.of (nest_on hw) (hts w (nest_tbl hw))⟩, fun _ => rfl, va_AO.of v0, va_AO.of v2, va_AO.of v3⟩, rfl⟩
  · have e' : s.heap.size + i = s.heap.size + j := e
    omega
  · match k, hq with
    | 0, hq => cases hq; exact hKn0
    | 1, hq => cases hq; exact hKn1
    | 2, hq => cases hq; exact hKn2
    | 3, hq => cases hq; exact hKn3
    | 4, hq => cases hq; exact hKn4
    | 5, hq => cases hq; exact hKn5
    | 6, hq => cases hq; exact hKn6
    | 7, hq => cases hq; exact hKn7
    | 8, hq => cases hq; exact hKn8
    | k + 9, hq => simp [vwCl] at hq
  · match k, hq with
    | 0, hq => cases hq; exact ⟨p0, q0⟩
    | 1, hq => cases hq; exact ⟨p1, q1⟩
    | 2, hq => cases hq; exact ⟨p2, q2⟩
    | 3, hq => cases hq; exact ⟨p3, q3⟩
    | 4, hq => cases hq; exact ⟨p4, q4⟩
    | k + 5, hq => simp [wTys] at hq
set_option maxHeartbeats 4000000 in
set_option maxRecDepth 100000 in
/-- THE LAW, from its entry -/
theorem whole_start {p : Program} {e : Env} {s : State} {m : MethodId} {below : List Frame} {meth : Method} {c : Code} (l : Launch) (hflags : l.flags = flags0) {b L : Nat} {xs : Nat → Int32} (hL : L ≤ 3072) (C0 : lw_At p s m meth c b L xs) : W p l e room_1 s m #[Value.ref b] below meth c s.heap [] 0 0 (lw_Z below #[Value.ref b] s) (entryFrame m ([Value.ref b] : List Value).toArray 4) := by
  obtain ⟨hx, hb, hr, hml, hown, hts, hX, hbl, hlocks, hgv⟩ := id C0
  have hws : ∀ w ∈ lw_ws, w.before #[Value.ref b] s = true := fun w h => hts w (ws_tbl h)
  obtain ⟨g, hg, hgB⟩ := law_known hts
  have cf : CallFix p m c code 4 s #[Value.ref b] lw_ws RL := ⟨hx, hb, hml, hown, hws⟩
  have FKx : FK (p, l, e, room_1, s, m, #[Value.ref b], below, meth, c, 231, 2168, lw_Z below #[Value.ref b] s) g code 4 RL 12 446 600000 7302249 := ⟨cf, hg, rfl, rfl, rfl, rfl, Nat.le_of_eq hgB⟩
  have F : FX (p, l, e, room_1, s, m, #[Value.ref b], below, meth, c, 231, 2168, lw_Z below #[Value.ref b] s) g code 4 RL 12 446 := ⟨cf, hg.1, rfl, rfl, by decide, by decide, Nat.le_of_eq hgB⟩
  have hSX : SX (p, l, e, room_1, s, m, #[Value.ref b], below, meth, c, 231, 2168, lw_Z below #[Value.ref b] s) g b L xs := ⟨hX, hbl, fun h => by
    have h' : gB g ≤ b := h
    omega⟩
  have hEL : EL (p, l, e, room_1, s, m, #[Value.ref b], below, meth, c, 231, 2168, lw_Z below #[Value.ref b] s) b := ⟨rfl, rfl, rfl, hb, hr, hlocks, by decide, by decide, fun _ _ => trivial⟩
  have hl := lv_entry ([.ref b]) (n := 4) (Nat.le_of_ble_eq_true rfl)
  rw [lg_entry_eq]
  have T : KG (p, l, e, room_1, s, m, #[Value.ref b], below, meth, c, 231, 2168, lw_Z below #[Value.ref b] s) g 4 (wE g M0) 231 231 2168 18 [some (.ref b), some (.ref (ad g 0)), some (.ref (ad g 224)), some (.int (nI 0))] [] := by
    intro H locs ls hP hS hLv
    exact law_loop F hSX hEL hgB hL 3072 0 M0 (by omega) J_0 H locs ls hP.1 hS hLv
  have K : KG (p, l, e, room_1, s, m, #[Value.ref b], below, meth, c, 231, 2168, lw_Z below #[Value.ref b] s) g 4 (fun k => wE g M0 k) 0 0 0 0 [some (.ref b), none, none, none] [] := by
    refine k_new (pc := 0) (ci := 7) (fs := [.null, .null, .null, .null, .null]) FKx wcl_L_7 win_X7 wz_X7 rfl uin_X7 tyX7_ok (fun j hj => match j, hj with | 0, _ => rfl | 1, _ => rfl | 2, _ => rfl | 3, _ => rfl | 4, _ => rfl | k + 5, h => absurd h (by omega)) (by decide) (by decide) dL_law_0 ?_
    refine k_dup (pc := 3) FKx dL_law_3 rfl ?_
    refine k_callI (pc := 4) (rf2 := 5) (rl2 := 94) (mc := 223) (ms := 1313) (na := 0) FKx wl_L_9 wi_X7_init wz_X7 wc_X7_init rfl (by decide) (by rfl) (by rfl) (Nat.le_of_ble_eq_true (by rfl)) (by decide) (by decide) dL_law_4 (k_X7_init _ g _ (updE_self _ _ _)) ?_
    refine k_astore_n (pc := 7) FKx dL_law_7 (by decide) rfl ?_
    refine k_new (pc := 8) (ci := 8) (fs := [.null, .null, .null, .null, .int 0, .int 0, .null, .int 0, .int 0, .int 0, .int 0, .int 0, .int 0, .int 0, .null]) FKx wcl_L_10 win_X8 wz_X8 rfl uin_X8 tyX8_ok (fun j hj => match j, hj with | 0, _ => rfl | 1, _ => rfl | 2, _ => rfl | 3, _ => rfl | 4, _ => rfl | 5, _ => rfl | 6, _ => rfl | 7, _ => rfl | 8, _ => rfl | 9, _ => rfl | 10, _ => rfl | 11, _ => rfl | 12, _ => rfl | 13, _ => rfl | 14, _ => rfl | k + 15, h => absurd h (by omega)) (by decide) (by decide) dL_law_8 ?_
    refine k_dup (pc := 11) FKx dL_law_11 rfl ?_
    refine k_callI (pc := 12) (rf2 := 1) (rl2 := 12) (mc := 6) (ms := 835) (na := 0) FKx wl_L_12 wi_X8_init wz_X8 wc_X8_init rfl (by decide) (by rfl) (by rfl) (Nat.le_of_ble_eq_true (by rfl)) (by decide) (by decide) dL_law_12 (k_X8_init _ g _ (updE_self _ _ _)) ?_
    refine k_astore_n (pc := 15) FKx dL_law_15 (by decide) rfl ?_
    refine k_iconst (pc := 16) (v := 0) FKx dL_law_16 (by decide) ?_
    refine k_istore_n (pc := 17) FKx dL_law_17 (by decide) rfl ?_
    refine KG.eqv (E' := wE g M0) (fun k hk => Or.inl ?_) ?_
    · by_cases h1 : k < 224
      · rw [fin_lo g _ h1, updE_ne _ _ (by omega), fin_in g _ (Nat.zero_le k) h1]
      · rw [fin_in g _ (by omega) hk]
    · exact KG.cnt rfl rfl rfl T
  refine K s.heap [] _ ⟨fun k q hq => ?_, by rw [hgB]; rfl⟩ va_S.rf (lhas.of hl (fun i v hi => ?_))
  · have h0 : (cW g (fun k => wE g M0 k) 0)[k]? = none := by
      show ([] : va_W)[k]? = none
      rfl
    rw [h0] at hq
    cases hq
  · have := lvE_sound 3 [.ref b] 0 i v hi
    rwa [Nat.zero_add] at this
