/-! MAKING THE WORLD: the cells 0..n-1 are made, E says what stands in them; the next address is that of place n -/
def updE (E : Nat → va_E) (k : Nat) (x : va_E) : Nat → va_E := fun a => if a = k then x else E a
theorem updE_self (E : Nat → va_E) (k : Nat) (x : va_E) : updE E k x k = x := if_pos rfl
theorem updE_ne (E : Nat → va_E) {k a : Nat} (x : va_E) (h : a ≠ k) : updE E k x a = E a := if_neg h
def cW (g : Gm) (E : Nat → va_E) (n : Nat) : va_W := (List.range n).map (fun k => (ad g k, E k))
def cOK (g : Gm) (U : State) : Prop := wOK g U ∧ (∀ k, ad g k = gB g + k) ∧ va_AO RX0 U ∧ va_AO RX2 U ∧ va_AO RX3 U
theorem cOK.warm {g : Gm} {s U : State} (hW : s.WarmedH U.vm) (h : cOK g s) : cOK g U := ⟨h.1.warm hW, h.2.1, h.2.2.1.moved hW.alike, h.2.2.2.1.moved hW.alike, h.2.2.2.2.moved hW.alike⟩
def wP (g : Gm) (E : Nat → va_E) (n : Nat) (H : Heap) : Prop := va_P (gD g) vwCl (cW g E n) H ∧ H.size = gB g + n
theorem cW_at (g : Gm) (E : Nat → va_E) {n k : Nat} (hk : k < n) : (cW g E n)[k]? = some (ad g k, E k) := by simp [cW, hk]
theorem cW_D {g : Gm} {U : State} (h : cOK g U) (E : Nat → va_E) (n : Nat) : va_D (gA g) (cW g E n) := by
  have at' : ∀ {k : Nat} {q : Nat × va_E}, (cW g E n)[k]? = some q → k < n ∧ q.1 = ad g k := by
    intro k q hq
    have hk : k < n := by
      have := (List.getElem?_eq_some_iff.mp hq).1
      simpa [cW] using this
    rw [cW_at g E hk] at hq
    cases hq
    exact ⟨hk, rfl⟩
  refine ⟨fun i j p q hp hq e => ?_, fun k q hk => ?_⟩
  · have h1 := (at' hp).2
    have h2 := (at' hq).2
    have h3 := h.2.1 i
    have h4 := h.2.1 j
    omega
  · have h1 := (at' hk).2
    have h2 := h.2.1 k
    show gB g ≤ q.1
    omega
theorem cW_set (g : Gm) (E : Nat → va_E) {n k : Nat} (hk : k < n) (x : va_E) : (cW g E n).set k (ad g k, x) = cW g (updE E k x) n := by
  apply List.ext_getElem?
  intro i
  by_cases hi : i < n
  · by_cases hki : k = i
    · subst hki
      rw [List.getElem?_set_self (by simpa [cW] using hk), cW_at g _ hk, updE_self]
    · rw [List.getElem?_set_ne hki, cW_at g E hi, cW_at g _ hi, updE_ne _ _ (fun e => hki e.symm)]
  · rw [List.getElem?_eq_none (by simp [cW]; omega), List.getElem?_eq_none (by simp [cW]; omega)]
theorem cW_push (g : Gm) (E : Nat → va_E) {n a : Nat} (h : ad g n = a) (x : va_E) : cW g E n ++ [(a, x)] = cW g (updE E n x) (n + 1) := by
  unfold cW
  rw [List.range_succ, List.map_append]
  congr 1
  · apply List.map_congr_left
    intro k hk
    have := List.mem_range.mp hk
    rw [updE_ne _ _ (by omega)]
  · show [(a, x)] = [(ad g n, updE E n x n)]
    rw [h, updE_self]
def FK (X : XT) (g : Gm) (cc : ByteArray) (nL : Nat) (own : String) (rf rl rc rs : Nat) : Prop := match X with
  | (p, _, _, R, s, m, args, _, _, c, _, _, _) => CallFix p m c cc nL s args lw_ws own ∧ cOK g s ∧ R.frames = rf ∧ R.locals = rl ∧ R.cells = rc ∧ R.slots = rs ∧ gB g ≤ s.heap.size
def XI (X : XT) : Prop := match X with
  | (_, _, _, _, _, _, _, _, meth, _, _, _, _) => meth.name = "<init>"
def KG (X : XT) (g : Gm) (nL : Nat) (E : Nat → va_E) (n cs sl : Nat) (pc : Nat) (lv : List (Option Value)) (st : List Value) : Prop := match X with
  | (p, l, e, R, s, m, args, below, meth, c, _, _, Q) => ∀ (H : Heap) (locs : List Loc) (ls : Array Slot), wP g E n H → va_S (gA g) s.heap H locs → lhas ls nL lv → W p l e R s m args below meth c H locs cs sl Q (F0 m pc ls st)
section KROWS
variable {X : XT} {g : Gm} {cc : ByteArray} {nL : Nat} {own : String} {rf rl rc rs : Nat} {E : Nat → va_E} {n cs sl : Nat} {pc : Nat} {lv : List (Option Value)} {st : List Value}
theorem KG.sub (r : List (Option Value)) (hs : lsub lv r) (k : KG X g nL E n cs sl pc r st) : KG X g nL E n cs sl pc lv st := by
  obtain ⟨p, l, e, R, s, m, args, below, meth, c, cells, slots, Q⟩ := X
  intro H locs ls hP hS hL
  exact k H locs ls hP hS (hL.sub hs)
theorem KG.eE {E' : Nat → va_E} (h : E = E') (k : KG X g nL E' n cs sl pc lv st) : KG X g nL E n cs sl pc lv st := h ▸ k
theorem KG.cnt {n' cs' sl' : Nat} (h1 : n = n') (h2 : cs = cs') (h3 : sl = sl') (k : KG X g nL E n' cs' sl' pc lv st) : KG X g nL E n cs sl pc lv st := by
  subst h1
  subst h2
  subst h3
  exact k
theorem k_stk {st' : List Value} (h : st = st') (k : KG X g nL E n cs sl pc lv st') : KG X g nL E n cs sl pc lv st := h ▸ k
theorem k_iconst (F : FK X g cc nL own rf rl rc rs) {z : Int} {v : Int32} (hd : decode cc pc = .ok (.iconst z, 1)) (hv : Int32.ofInt z = v) (k : KG X g nL E n cs sl (pc + 1) lv (.int v :: st)) : KG X g nL E n cs sl pc lv st := by
  obtain ⟨p, l, e, R, s, m, args, below, meth, c, cells, slots, Q⟩ := X
  obtain ⟨⟨hx, hb, hml, hown, hts⟩, hW, hrf, hrl, hrc, hrs, hgb⟩ := F
  intro H locs ls hP hS hL
  exact lv_iconst hx hb hd hv (k H locs ls hP hS hL)
theorem k_bipush (F : FK X g cc nL own rf rl rc rs) {z : Int} {v : Int32} (hd : decode cc pc = .ok (.bipush z, 2)) (hv : (Int8.ofInt z).toInt32 = v) (k : KG X g nL E n cs sl (pc + 2) lv (.int v :: st)) : KG X g nL E n cs sl pc lv st := by
  obtain ⟨p, l, e, R, s, m, args, below, meth, c, cells, slots, Q⟩ := X
  obtain ⟨⟨hx, hb, hml, hown, hts⟩, hW, hrf, hrl, hrc, hrs, hgb⟩ := F
  intro H locs ls hP hS hL
  exact lv_bipush hx hb hd hv (k H locs ls hP hS hL)
theorem k_sipush (F : FK X g cc nL own rf rl rc rs) {z : Int} {v : Int32} (hd : decode cc pc = .ok (.sipush z, 3)) (hv : (Int16.ofInt z).toInt32 = v) (k : KG X g nL E n cs sl (pc + 3) lv (.int v :: st)) : KG X g nL E n cs sl pc lv st := by
  obtain ⟨p, l, e, R, s, m, args, below, meth, c, cells, slots, Q⟩ := X
  obtain ⟨⟨hx, hb, hml, hown, hts⟩, hW, hrf, hrl, hrc, hrs, hgb⟩ := F
  intro H locs ls hP hS hL
  exact lv_sipush hx hb hd hv (k H locs ls hP hS hL)
theorem k_aload_n (F : FK X g cc nL own rf rl rc rs) {i : Fin 4} {x : Nat} (hd : decode cc pc = .ok (.aload_n i, 1)) (hl : lg lv (i : Nat) = some (.ref x)) (k : KG X g nL E n cs sl (pc + 1) lv (.ref x :: st)) : KG X g nL E n cs sl pc lv st := by
  obtain ⟨p, l, e, R, s, m, args, below, meth, c, cells, slots, Q⟩ := X
  obtain ⟨⟨hx, hb, hml, hown, hts⟩, hW, hrf, hrl, hrc, hrs, hgb⟩ := F
  intro H locs ls hP hS hL
  exact lv_aload_n hx hb hd rfl (hL.2.2 _ _ hl) (k H locs ls hP hS hL)
theorem k_iload_n (F : FK X g cc nL own rf rl rc rs) {i : Fin 4} {x : Int32} (hd : decode cc pc = .ok (.iload_n i, 1)) (hl : lg lv (i : Nat) = some (.int x)) (k : KG X g nL E n cs sl (pc + 1) lv (.int x :: st)) : KG X g nL E n cs sl pc lv st := by
  obtain ⟨p, l, e, R, s, m, args, below, meth, c, cells, slots, Q⟩ := X
  obtain ⟨⟨hx, hb, hml, hown, hts⟩, hW, hrf, hrl, hrc, hrs, hgb⟩ := F
  intro H locs ls hP hS hL
  exact lv_iload_n hx hb hd rfl (hL.2.2 _ _ hl) (k H locs ls hP hS hL)
theorem k_istore_n (F : FK X g cc nL own rf rl rc rs) {i : Fin 4} {x : Int32} (hd : decode cc pc = .ok (.istore_n i, 1)) (hn : (i : Nat) < nL) (ho : lok lv (i : Nat) = true) (k : KG X g nL E n cs sl (pc + 1) (lst lv (i : Nat) (some (.int x))) st) : KG X g nL E n cs sl pc lv (.int x :: st) := by
  obtain ⟨p, l, e, R, s, m, args, below, meth, c, cells, slots, Q⟩ := X
  obtain ⟨⟨hx, hb, hml, hown, hts⟩, hW, hrf, hrl, hrc, hrs, hgb⟩ := F
  intro H locs ls hP hS hL
  exact lv_istore_n hx hb hd rfl hL.asc hn rfl (fun ls h => k H locs ls hP hS (lhas.set1 ho h))
theorem k_astore_n (F : FK X g cc nL own rf rl rc rs) {i : Fin 4} {x : Nat} (hd : decode cc pc = .ok (.astore_n i, 1)) (hn : (i : Nat) < nL) (ho : lok lv (i : Nat) = true) (k : KG X g nL E n cs sl (pc + 1) (lst lv (i : Nat) (some (.ref x))) st) : KG X g nL E n cs sl pc lv (.ref x :: st) := by
  obtain ⟨p, l, e, R, s, m, args, below, meth, c, cells, slots, Q⟩ := X
  obtain ⟨⟨hx, hb, hml, hown, hts⟩, hW, hrf, hrl, hrc, hrs, hgb⟩ := F
  intro H locs ls hP hS hL
  exact lv_astore_n hx hb hd rfl hL.asc hn rfl (fun ls h => k H locs ls hP hS (lhas.set1 ho h))
theorem k_iinc (F : FK X g cc nL own rf rl rc rs) {i : Nat} {z : Int} {x v : Int32} (hd : decode cc pc = .ok (.iinc i z, 3)) (hl : lg lv i = some (.int x)) (hv : x + Int32.ofInt z = v) (hn : i < nL) (ho : lok lv i = true) (k : KG X g nL E n cs sl (pc + 3) (lst lv i (some (.int v))) st) : KG X g nL E n cs sl pc lv st := by
  obtain ⟨p, l, e, R, s, m, args, below, meth, c, cells, slots, Q⟩ := X
  obtain ⟨⟨hx, hb, hml, hown, hts⟩, hW, hrf, hrl, hrc, hrs, hgb⟩ := F
  intro H locs ls hP hS hL
  obtain ⟨q, hq⟩ := List.getElem?_of_mem ((lasc_mem lv (i, .int x)).mpr hl)
  exact lv_iinc hx hb hd hL.asc hq hv hn rfl (fun ls h => k H locs ls hP hS (lhas.set1 ho h))
theorem k_dup (F : FK X g cc nL own rf rl rc rs) {v : Value} (hd : decode cc pc = .ok (.dup, 1)) (hv : v.category = 1) (k : KG X g nL E n cs sl (pc + 1) lv (v :: v :: st)) : KG X g nL E n cs sl pc lv (v :: st) := by
  obtain ⟨p, l, e, R, s, m, args, below, meth, c, cells, slots, Q⟩ := X
  obtain ⟨⟨hx, hb, hml, hown, hts⟩, hW, hrf, hrl, hrc, hrs, hgb⟩ := F
  intro H locs ls hP hS hL
  exact lv_dup hx hb hd hv (k H locs ls hP hS hL)
theorem k_goto (F : FK X g cc nL own rf rl rc rs) {off : Int} {tgt : Nat} (hd : decode cc pc = .ok (.goto off, 3)) (ht : (pc : Int) + off = (tgt : Int)) (k : KG X g nL E n cs sl tgt lv st) : KG X g nL E n cs sl pc lv st := by
  obtain ⟨p, l, e, R, s, m, args, below, meth, c, cells, slots, Q⟩ := X
  obtain ⟨⟨hx, hb, hml, hown, hts⟩, hW, hrf, hrl, hrc, hrs, hgb⟩ := F
  intro H locs ls hP hS hL
  exact lv_goto hx hb hd ht (k H locs ls hP hS hL)
theorem k_icmp_ge (F : FK X g cc nL own rf rl rc rs) {x y : Int32} {off : Int} {tgt : Nat} (hd : decode cc pc = .ok (.if_icmp .ge off, 3)) (ht : (pc : Int) + off = (tgt : Int)) (kt : y ≤ x → KG X g nL E n cs sl tgt lv st) (kf : ¬ y ≤ x → KG X g nL E n cs sl (pc + 3) lv st) : KG X g nL E n cs sl pc lv (.int y :: .int x :: st) := by
  obtain ⟨p, l, e, R, s, m, args, below, meth, c, cells, slots, Q⟩ := X
  obtain ⟨⟨hx, hb, hml, hown, hts⟩, hW, hrf, hrl, hrc, hrs, hgb⟩ := F
  intro H locs ls hP hS hL
  exact lv_icmp_ge hx hb hd ht (fun q => kt q H locs ls hP hS hL) (fun q => kf q H locs ls hP hS hL)
theorem k_objInit (F : FK X g cc nL own rf rl rc rs) {idx a : Nat} (w : Cond.methodLink own idx objectInit ∈ lw_ws) (hf : 1 ≤ rf) (hl : (st.map fun v => v.category).sum + 12 ≤ rl) (hd : decode cc pc = .ok (.invokespecial idx, 3)) (kk : KG X g nL E n cs sl (pc + 3) lv st) : KG X g nL E n cs sl pc lv (.ref a :: st) := by
  obtain ⟨p, l, e, R, s, m, args, below, meth, c, cells, slots, Q⟩ := X
  obtain ⟨⟨hx, hb, hml, hown, hts⟩, hW, hrf, hrl, hrc, hrs, hgb⟩ := F
  intro H locs ls hP hS hL
  refine W.objInit hx hb hown (hts _ w) (hts _ wi_objInit) (hts _ wc_objInit) rfl (by rw [hml]; exact hL.1) rfl hd (by rw [hrf]; exact hf) (by rw [hrl]; show 2 * 0 + _ + 12 ≤ rl; omega) ?_
  exact kk H locs ls hP hS hL
theorem k_new (F : FK X g cc nL own rf rl rc rs) {C : String} {T : u_T} {N ci idx : Nat} {ty : Nat → FieldType} {fs : List Value} (w1 : Cond.classLink own idx C ∈ lw_ws) (w2 : Cond.instantiable C N ∈ lw_ws) (w3 : Cond.initialized C ∈ lw_ws) (hc : vwCl[ci]? = some (C, T, N)) (hin : ∀ w ∈ u_ws C T N, w ∈ lw_ws) (hty : ∀ k, k < N → parseFieldDescriptor (T k).2.2.1 = some (ty k)) (hfs : ∀ j, j < N → defaultValue (ty j) = vp_V fs j) (h1 : cs + 1 ≤ rc) (h2 : sl + N ≤ rs) (hd : decode cc pc = .ok (.new idx, 3))
    (kk : KG X g nL (updE E n (.inr (ci, fs))) (n + 1) (cs + 1) (sl + N) (pc + 3) lv (.ref (ad g n) :: st)) : KG X g nL E n cs sl pc lv st := by
  obtain ⟨p, l, e, R, s, m, args, below, meth, c, cells, slots, Q⟩ := X
  obtain ⟨⟨hx, hb, hml, hown, hts⟩, hW, hrf, hrl, hrc, hrs, hgb⟩ := F
  intro H locs ls hP hS hL
  have hKn := hW.1.2.2.1.1 ci _ hc
  have hD := cW_D hW E n
  have hA : gA g H.size := by show gB g ≤ H.size; have := hP.2; omega
  have hadd : ad g n = H.size := by rw [hW.2.1, hP.2]
  refine W.newcK hx hb hown (hts _ w1) (hts _ w2) (hts _ w3) rfl hd (by rw [hrc]; exact h1) (by rw [hrs]; exact h2) hKn.2.1 rfl fun H1 kC hkC e1 z1 o1 => ?_
  have hk : ∀ (k : Nat) (x : Nat × va_E), (cW g E n)[k]? = some x → H1[x.1]? = H[x.1]? := fun k x hx => o1 x.1 ((hP.1 k x hx).lt)
  have hP1 : va_P (gD g) vwCl (cW g E n ++ [(H.size, .inr (ci, fs))]) H1 := by
    refine (hP.1.kept hk).app (fun k x hx => ?_)
    have hz : k < 1 := (List.getElem?_eq_some_iff.mp hx).1
    rw [show k = 0 by omega] at hx
    cases hx
    exact ⟨_, hc, (u_born ty hts hin hKn hkC e1 hty).to hfs⟩
  rw [cW_push g E hadd] at hP1
  have := kk H1 locs ls ⟨hP1, by have := hP.2; omega⟩ ⟨Nat.le_trans hS.1 (by omega), fun x h1 h2 => (o1 x (Nat.lt_of_lt_of_le h1 hS.1)).trans (hS.2.1 x h1 h2), hS.2.2⟩ hL
  rw [hadd] at this
  exact this
theorem k_newaT (F : FK X g cc nL own rf rl rc rs) {atype : ArrayType} {t0 N : Nat} {cA : ClassId} {v : Int32} {ty : FieldType} (w : Cond.arrayClass (newarray.typeOf atype) ∈ lw_ws) (hty : newarray.typeOf atype = ty) (hcA : ∀ s : State, va_RA s cA ty → s.vm.findClass ("[" ++ ty.toString) = some cA) (ht : (wTys g)[t0]? = some (cA, ty)) (hdef : defaultValue ty = .int 0) (hv : v = nI N) (hN : N * 8 ≤ 536870912) (hcb : componentBytes ty ≤ 8) (h1 : cs + 1 ≤ rc) (h2 : sl + N ≤ rs) (hd : decode cc pc = .ok (.newarray atype, 2))
    (kk : KG X g nL (updE E n (.inl (cA, N, .inl (fun _ => 0)))) (n + 1) (cs + 1) (sl + N) (pc + 2) lv (.ref (ad g n) :: st)) : KG X g nL E n cs sl pc lv (.int v :: st) := by
  obtain ⟨p, l, e, R, s, m, args, below, meth, c, cells, slots, Q⟩ := X
  obtain ⟨⟨hx, hb, hml, hown, hts⟩, hW, hrf, hrl, hrc, hrs, hgb⟩ := F
  intro H locs ls hP hS hL
  subst hty
  have hadd : ad g n = H.size := by rw [hW.2.1, hP.2]
  refine va_newaK hx hb (hts _ w) rfl hd rfl (by rw [hv]; exact nI_pos (by omega)) (N := N) (by rw [hv, nI_clamp (by omega)]) (Nat.le_trans (Nat.mul_le_mul_left N hcb) hN) (by rw [hrc]; exact h1) (by rw [hrs]; exact h2) rfl fun H1 cA' e1 z1 o1 hAr hNm => ?_
  have hcAe : cA' = cA := Option.some.inj (hNm.symm.trans (hcA s (hW.1.2.2.1.2 t0 _ ht).2))
  subst hcAe
  have hk : ∀ (k : Nat) (x : Nat × va_E), (cW g E n)[k]? = some x → H1[x.1]? = H[x.1]? := fun k x hx => o1 x.1 ((hP.1 k x hx).lt)
  have hP1 : va_P (gD g) vwCl (cW g E n ++ [(H.size, .inl (cA', N, .inl (fun _ => 0)))]) H1 := by
    refine (hP.1.kept hk).app (fun k x hx => ?_)
    have hz : k < 1 := (List.getElem?_eq_some_iff.mp hx).1
    rw [show k = 0 by omega] at hx
    cases hx
    show H1[H.size]? = some (vp_cell _ _)
    rw [vp_cell_i, e1, hdef]
  rw [cW_push g E hadd] at hP1
  have := kk H1 locs ls ⟨hP1, by have := hP.2; omega⟩ ⟨Nat.le_trans hS.1 (by omega), fun x h1 h2 => (o1 x (Nat.lt_of_lt_of_le h1 hS.1)).trans (hS.2.1 x h1 h2), hS.2.2⟩ hL
  rw [hadd] at this
  exact this
theorem k_newi (F : FK X g cc nL own rf rl rc rs) {N : Nat} {v : Int32} (hv : v = nI N) (hN : N * 8 ≤ 536870912) (h1 : cs + 1 ≤ rc) (h2 : sl + N ≤ rs) (hd : decode cc pc = .ok (.newarray .int, 2))
    (kk : KG X g nL (updE E n (.inl (gC g 0, N, .inl (fun _ => 0)))) (n + 1) (cs + 1) (sl + N) (pc + 2) lv (.ref (ad g n) :: st)) : KG X g nL E n cs sl pc lv (.int v :: st) :=
  k_newaT F (atype := .int) (ty := .int) (t0 := 0) wac_int rfl (fun _ h => h) rfl rfl hv hN (by decide) h1 h2 hd kk
theorem k_newc (F : FK X g cc nL own rf rl rc rs) {N : Nat} {v : Int32} (hv : v = nI N) (hN : N * 8 ≤ 536870912) (h1 : cs + 1 ≤ rc) (h2 : sl + N ≤ rs) (hd : decode cc pc = .ok (.newarray .char, 2))
    (kk : KG X g nL (updE E n (.inl (gC g 1, N, .inl (fun _ => 0)))) (n + 1) (cs + 1) (sl + N) (pc + 2) lv (.ref (ad g n) :: st)) : KG X g nL E n cs sl pc lv (.int v :: st) :=
  k_newaT F (atype := .char) (ty := .char) (t0 := 1) wac_char rfl (fun _ h => h) rfl rfl hv hN (by decide) h1 h2 hd kk
/-- an array of references -/
abbrev rarr (cA : ClassId) (N : Nat) (f : Nat → Option Nat) : va_E := .inl (cA, N, .inr (.inr (.inr (.inr f))))
theorem k_anew (F : FK X g cc nL own rf rl rc rs) {idx t0 N : Nat} {C : String} {cA : ClassId} {v : Int32} (w : Cond.classLink own idx C ∈ lw_ws) (hover : ∀ s : State, cOK g s → va_AO C s) (ht : (wTys g)[t0]? = some (cA, .object C)) (hv : v = nI N) (hN : N * 4 ≤ 536870912) (h1 : cs + 1 ≤ rc) (h2 : sl + N ≤ rs) (hd : decode cc pc = .ok (.anewarray idx, 3))
    (kk : KG X g nL (updE E n (rarr cA N (fun _ => none))) (n + 1) (cs + 1) (sl + N) (pc + 3) lv (.ref (ad g n) :: st)) : KG X g nL E n cs sl pc lv (.int v :: st) := by
  obtain ⟨p, l, e, R, s, m, args, below, meth, c, cells, slots, Q⟩ := X
  obtain ⟨⟨hx, hb, hml, hown, hts⟩, hW, hrf, hrl, hrc, hrs, hgb⟩ := F
  intro H locs ls hP hS hL
  have hadd : ad g n = H.size := by rw [hW.2.1, hP.2]
  have hNv : v.toNatClampNeg = N := by rw [hv, nI_clamp (by omega)]
  refine W.anew hx hb hown (hts _ w) (va_AO.use (hover s hW)) rfl hd rfl (by rw [hv]; exact nI_pos (by omega)) (by rw [hNv]; exact hN) (by rw [hrc]; exact h1) (by rw [hrs, hNv]; exact h2) fun cA' kA comp f1 f2 f3 f4 => ?_
  obtain ⟨_, _, -, -, -, hcC⟩ := (hW.1.2.2.1.2 t0 _ ht).2
  have hcAe : cA' = cA := Option.some.inj (f1.symm.trans hcC)
  subst hcAe
  rw [hNv]
  generalize hH1 : H.push ({ cls := cA', slots := Array.replicate N .null, vm := .none } : Cell) = H1
  have z1 : H1.size = H.size + 1 := by rw [← hH1, Array.size_push]
  have e1 : H1[H.size]? = some (arrV cA' N (fun _ => .null)) := by rw [← hH1, Array.getElem?_push_size, ← arrV_new]
  have o1 : ∀ q : Nat, q < H.size → H1[q]? = H[q]? := fun q hq => by rw [← hH1, Array.getElem?_push, if_neg (Nat.ne_of_lt hq)]
  have hk : ∀ (k : Nat) (x : Nat × va_E), (cW g E n)[k]? = some x → H1[x.1]? = H[x.1]? := fun k x hx => o1 x.1 ((hP.1 k x hx).lt)
  have hP1 : va_P (gD g) vwCl (cW g E n ++ [(H.size, rarr cA' N (fun _ => none))]) H1 := by
    refine (hP.1.kept hk).app (fun k x hx => ?_)
    have hz : k < 1 := (List.getElem?_eq_some_iff.mp hx).1
    rw [show k = 0 by omega] at hx
    cases hx
    show H1[H.size]? = some (vp_cell _ _)
    rw [vp_cell_q]
    exact e1
  rw [cW_push g E hadd] at hP1
  have := kk H1 locs ls ⟨hP1, by have := hP.2; omega⟩ ⟨Nat.le_trans hS.1 (by omega), fun x h1 h2 => (o1 x (Nat.lt_of_lt_of_le h1 hS.1)).trans (hS.2.1 x h1 h2), hS.2.2⟩ hL
  rw [hadd] at this
  exact this
/-- a field of an object that is being made: final or not -/
theorem k_put (F : FK X g cc nL own rf rl rc rs) (hI : XI X) {C : String} {T : u_T} {N ci k j idx : Nat} {ty0 : Nat → FieldType} {ty : FieldType} {fs : List Value} {v : Value} (hk : k < n) (hE : E k = .inr (ci, fs)) (hc : vwCl[ci]? = some (C, T, N)) (hin : ∀ w ∈ u_ws C T N, w ∈ lw_ws) (hj : j < N) (hty : ∀ k, k < N → parseFieldDescriptor (T k).2.2.1 = some (ty0 k)) (hnm : ∀ a, a < N → ∀ b, b < N → a ≠ b → (T a).2.1 ≠ (T b).2.1) (hl : Cond.fieldLink own idx (T j).1 (T j).2.1 (T j).2.2.1 ∈ lw_ws) (hdecl : (T j).1 = own) (ht0 : ty0 j = ty) (hn : narrow ty v = v) (hfit : fits ty v = true) (hlen : j < fs.length) (hd : decode cc pc = .ok (.putfield idx, 3))
    (kk : KG X g nL (updE E k (.inr (ci, fs.set j v))) n cs sl (pc + 3) lv st) : KG X g nL E n cs sl pc lv (v :: .ref (ad g k) :: st) := by
  obtain ⟨p, l, e, R, s, m, args, below, meth, c, cells, slots, Q⟩ := X
  obtain ⟨⟨hx, hb, hml, hown, hts⟩, hW, hrf, hrl, hrc, hrs, hgb⟩ := F
  intro H locs ls hP hS hL
  have he : (cW g E n)[k]? = some (ad g k, .inr (ci, fs)) := by rw [cW_at g E hk, hE]
  have hdty : parseFieldDescriptor (T j).2.2.1 = some ty := by rw [hty j hj, ht0]
  have hK := hW.1.2.2.1
  have hD := cW_D hW E n
  have hap := va_apart (own := own) hts hin ty0 hty hnm hK hc
  obtain ⟨r, h1, cell, q1, q2, q3, q4⟩ := hP.1 k _ he
  have hr : r = (C, T, N) := Option.some.inj (h1.symm.trans hc)
  subst hr
  obtain ⟨hKS, hfc, kC, hkC, hkind⟩ := hK.1 ci _ hc
  obtain ⟨cf, kf, fi, f, hi, hsl⟩ := hKS j hj
  have hlay := hts _ (hin _ (u_in_lay hj))
  have hst := (u_facts hfc hkC (u_lays hts hin hj) hi).1
  have fin : ∀ (H1 : Heap) (locs1 : List Loc), H1[ad g k]? = some (cell.setSlot (gD g |>.2 ci j) v) → H1.size = H.size → (∀ q : Nat, q ≠ ad g k → H1[q]? = H[q]?) → va_S (gA g) s.heap H1 locs1 → W p l e R s m args below meth c H1 locs1 cs sl Q (F0 m (pc + 3) ls st) := by
    intro H1 locs1 e1 e2 e3 hS1
    have hP1 := hP.1.set (e := .inr (ci, fs.set j v)) hD he ⟨_, hc, t_OB.to (V := updV (vp_V fs) j v) ⟨_, e1, q2, q3, t_set q4 hap hj v⟩ (fun i _ => vp_updV_set hlen v i)⟩ e3
    rw [cW_set g E hk] at hP1
    exact kk H1 locs1 ls ⟨hP1, e2.trans hP.2⟩ hS1 hL
  cases hf : (T j).2.2.2 with
  | false =>
    unfold u_lay at hlay
    rw [if_neg (by rw [hf]; decide)] at hlay
    have h6 := u_store hfc hkC hkind hlay hi hdty hn hfit
    refine W.putK hx hb (f := f) ⟨hown, hts _ hl, ⟨_, _, _, hi⟩, hst⟩ (by rw [q2]; exact h6) q1 q3 (by rw [hsl]; exact k2_hasslot (q4 j hj)) rfl rfl hd fun H1 e1 e2 e3 => ?_
    rw [hsl] at e1 ⊢
    exact fin H1 _ e1 e2 e3 (hS.put e2 e3 (hD.2 k _ he))
  | true =>
    unfold u_lay at hlay
    rw [if_pos hf] at hlay
    have hcf : m.cls = cf := by
      obtain ⟨_, _, c', _, _, _, -, -, hf', -, -, -, hown2, -⟩ := Cond.laysFinal_spec hlay
      have e1 : c' = cf := by have := hi.symm.trans hf'; simp at this; exact this.1.symm
      rw [hdecl] at hown2
      rw [← e1]
      exact Option.some.inj (hown.symm.trans hown2)
    have h6 := u_fits hfc hkC hkind (Or.inr hlay) hi hdty hn hfit
    refine W.putFinK hx hb hown (hts _ hl) hi hst hcf hI (by rw [q2]; exact h6) q1 q3 (by rw [hsl]; exact k2_hasslot (q4 j hj)) rfl rfl hd fun H1 e1 e2 e3 => ?_
    rw [hsl] at e1 ⊢
    exact fin H1 _ e1 e2 e3 (hS.put e2 e3 (hD.2 k _ he))
theorem k_get (F : FK X g cc nL own rf rl rc rs) {C : String} {T : u_T} {N ci k j idx : Nat} {fs : List Value} {v : Value} (hk : k < n) (hE : E k = .inr (ci, fs)) (hc : vwCl[ci]? = some (C, T, N)) (hin : ∀ w ∈ u_ws C T N, w ∈ lw_ws) (hj : j < N) (hl : Cond.fieldLink own idx (T j).1 (T j).2.1 (T j).2.2.1 ∈ lw_ws) (hv : fs[j]? = some v) (hd : decode cc pc = .ok (.getfield idx, 3))
    (kk : KG X g nL E n cs sl (pc + 3) lv (v :: st)) : KG X g nL E n cs sl pc lv (.ref (ad g k) :: st) := by
  obtain ⟨p, l, e, R, s, m, args, below, meth, c, cells, slots, Q⟩ := X
  obtain ⟨⟨hx, hb, hml, hown, hts⟩, hW, hrf, hrl, hrc, hrs, hgb⟩ := F
  intro H locs ls hP hS hL
  exact va_get hx hb hts hin hown hW.1.2.2.1 hP.1 k (by rw [cW_at g E hk, hE]) hc j hj (hts _ hl) (fun _ h => h) hv hd (kk H locs ls hP hS hL)
theorem k_alen (F : FK X g cc nL own rf rl rc rs) {k t0 : Nat} {cA : ClassId} {x : vp_A} {ty : FieldType} {v : Int32} (hk : k < n) (hE : E k = .inl (cA, x)) (ht : (wTys g)[t0]? = some (cA, ty)) (hv : Int32.ofNat x.1 = v) (hd : decode cc pc = .ok (.arraylength, 1))
    (kk : KG X g nL E n cs sl (pc + 1) lv (.int v :: st)) : KG X g nL E n cs sl pc lv (.ref (ad g k) :: st) := by
  obtain ⟨p, l, e, R, s, m, args, below, meth, c, cells, slots, Q⟩ := X
  obtain ⟨⟨hx, hb, hml, hown, hts⟩, hW, hrf, hrl, hrc, hrs, hgb⟩ := F
  intro H locs ls hP hS hL
  exact va_alen hx hb hW.1.2.2.1 hP.1 k t0 (by rw [cW_at g E hk, hE]) ht hv hd (kk H locs ls hP hS hL)
theorem k_aast (F : FK X g cc nL own rf rl rc rs) {k kv t0 ci N q : Nat} {cA : ClassId} {r : vw_C} {vs : List Value} {f : Nat → Option Nat} {i : Int32} (hk : k < n) (hE : E k = rarr cA N f) (ht : (wTys g)[t0]? = some (cA, .object r.1)) (hkv : kv < n) (hEv : E kv = .inr (ci, vs)) (hc : vwCl[ci]? = some r) (hi : i = nI q) (hq : q < N) (hN : N < 2147483648) (hd : decode cc pc = .ok (.aastore, 1))
    (kk : KG X g nL (updE E k (rarr cA N (va_up f q (some (ad g kv))))) n cs sl (pc + 1) lv st) : KG X g nL E n cs sl pc lv (.ref (ad g kv) :: .int i :: .ref (ad g k) :: st) := by
  obtain ⟨p, l, e, R, s, m, args, below, meth, c, cells, slots, Q⟩ := X
  obtain ⟨⟨hx, hb, hml, hown, hts⟩, hW, hrf, hrl, hrc, hrs, hgb⟩ := F
  intro H locs ls hP hS hL
  subst hi
  have hK := hW.1.2.2.1
  have hD := cW_D hW E n
  have ha : (cW g E n)[k]? = some (ad g k, rarr cA N f) := by rw [cW_at g E hk, hE]
  have hv : (cW g E n)[kv]? = some (ad g kv, .inr (ci, vs)) := by rw [cW_at g E hkv, hEv]
  have hqc : (nI q).toNatClampNeg = q := nI_clamp (by omega)
  obtain ⟨r', hr', cellV, g1, g2, g3, -⟩ := hP.1 kv _ hv
  have hcls := (hK.1 ci r hc).2
  obtain ⟨kA, comp, k1, k2, k3, -⟩ := (hK.2 t0 _ ht).2
  have hcomp : comp = (gD g).1 ci := Option.some.inj (k3.symm.trans hcls.1)
  subst hcomp
  obtain ⟨kC, hkC, -⟩ := hcls.2
  refine W.aast hx hb (hP.1 k _ ha) (fun q h => by cases h) (fun h => by cases h) k1 k2 rfl hkC ⟨nI_pos (by omega), by show _ < (arrV _ _ _).slots.size; rw [arrV_size, hqc]; exact hq⟩ g1 (fun q h => by rw [g3] at h; cases h) (by rw [g2]; exact hkC) (by rw [g2]; exact va_assign hcls) rfl rfl hd fun H1 e z oq => ?_
  have hat : va_at (gD g) vwCl (ad g k, rarr cA N (va_up f q (some (ad g kv)))) H1 := by
    show H1[ad g k]? = some (vp_cell _ _)
    rw [e]
    show some ((vp_cell cA (N, .inr (.inr (.inr (.inr f))))).setSlot _ _) = _
    rw [vp_cell_q, vp_cell_q, arrV_store, hqc]
    congr 2
    funext x
    by_cases hx : x = q
    · subst hx
      simp [updV, va_up, va_rf]
    · simp [updV, va_up, hx]
  have hP1 := hP.1.set hD ha hat oq
  rw [cW_set g E hk] at hP1
  exact kk H1 _ ls ⟨hP1, z.trans hP.2⟩ (hS.put z oq (hD.2 k _ ha)) hL
theorem k_iast (F : FK X g cc nL own rf rl rc rs) {k N q : Nat} {f : Nat → Int32} {i x : Int32} (hk : k < n) (hE : E k = .inl (gC g 0, N, .inl f)) (hi : i = nI q) (hq : q < N) (hN : N < 2147483648) (hd : decode cc pc = .ok (.iastore, 1))
    (kk : KG X g nL (updE E k (.inl (gC g 0, N, .inl (vf_upd f q x)))) n cs sl (pc + 1) lv st) : KG X g nL E n cs sl pc lv (.int x :: .int i :: .ref (ad g k) :: st) := by
  obtain ⟨p, l, e, R, s, m, args, below, meth, c, cells, slots, Q⟩ := X
  obtain ⟨⟨hx, hb, hml, hown, hts⟩, hW, hrf, hrl, hrc, hrs, hgb⟩ := F
  intro H locs ls hP hS hL
  subst hi
  have hK := hW.1.2.2.1
  have hD := cW_D hW E n
  have ha : (cW g E n)[k]? = some (ad g k, .inl (gC g 0, N, .inl f)) := by rw [cW_at g E hk, hE]
  have hqc : (nI q).toNatClampNeg = q := nI_clamp (by omega)
  refine W.iast hx hb (hP.1 k _ ha) ((hK.2 0 _ rfl).1 N (fun j => .int (f j))) (fun q => by cases q) (by show ¬ (nI q < 0 ∨ (arrV _ _ _).slots.size ≤ _); rw [arrV_size]; exact vp_in_nI hq (by omega)) rfl rfl hd fun H1 e z oq => ?_
  have hat : va_at (gD g) vwCl (ad g k, .inl (gC g 0, N, .inl (vf_upd f q x))) H1 := by
    show H1[ad g k]? = some (vp_cell _ _)
    rw [e]
    show some ((vp_cell (gC g 0) (N, .inl f)).setSlot _ _) = _
    rw [vp_cell_i, vp_cell_i, arrV_store, hqc]
    congr 2
    funext y
    by_cases hy : y = q
    · subst hy
      simp [updV, vf_upd]
    · simp [updV, vf_upd, hy]
  have hP1 := hP.1.set hD ha hat oq
  rw [cW_set g E hk] at hP1
  exact kk H1 _ ls ⟨hP1, z.trans hP.2⟩ (hS.put z oq (hD.2 k _ ha)) hL
end KROWS
abbrev qK (g : Gm) (E : Nat → va_E) (n : Nat) : State → Outcome → State → Prop := fun st o t => (o = .returned none ∧ wP g E n t.heap) ∧ va_F (gA g) st t
/-- the contract of a constructor: from E and n cells it comes to E2 and n2 cells; mc cells, ms slots are made -/
def KCn (l : Launch) (y : MethodName) (cy : ByteArray) (nL rf rl mc ms : Nat) (g : Gm) (av : List Value) (E : Nat → va_E) (n : Nat) (E2 : Nat → va_E) (n2 : Nat) : Prop :=
  Met l y (wsM y cy nL none) ({ frames := rf, cells := mc, slots := ms, locals := rl }) (va_Pc av (fun U => cOK g U ∧ wP g E n U.heap)) (fun _ st o t => qK g E2 n2 st o t) mc ms (gA g)
theorem kn_blind {g : Gm} {av : List Value} {E : Nat → va_E} {n : Nat} : FrameBlind (va_Pc av (fun U => cOK g U ∧ wP g E n U.heap)) := by
  intro a U fr mk q
  obtain ⟨q0, ⟨⟨q1, q2, q3, q4⟩, r1, r2, r3, r4⟩, q5⟩ := q
  refine ⟨q0, ⟨⟨q1, q2, va_K.moved (u := U) (U := U.calling fr mk a) (Vm.Alike.refl U.vm) q3, fun w hw => ?_⟩, r1, va_AO.moved (u := U) (U := U.calling fr mk a) (Vm.Alike.refl U.vm) r2, va_AO.moved (u := U) (U := U.calling fr mk a) (Vm.Alike.refl U.vm) r3, va_AO.moved (u := U) (U := U.calling fr mk a) (Vm.Alike.refl U.vm) r4⟩, q5⟩
  have h1 := nest_kind w hw
  refine va_Nw.same (u := U) ?_ rfl (q4 w hw)
  cases w <;> first | rfl | cases h1
theorem kn_call {p : Program} {l : Launch} {e : Env} {R : Room} {s : State} {m : MethodId} {args : Array Value} {below : List Frame} {meth : Method} {c : Code} {H : Heap} {locs : List Loc} {cells slots mc ms : Nat} {Q : State → Prop} {g : Gm} {pc : Nat} {ls : Array Slot} {rest st0 : List Value} {E2 : Nat → va_E} {n2 : Nat}
    (hr : va_Run p l e R s m args below meth c H locs cells slots mc ms (F0 m pc ls st0) rest (fun st o t => qK g E2 n2 st o t) (gA g)) (hS : va_S (gA g) s.heap H locs)
    (kk : ∀ (H1 : Heap) (locs1 : List Loc), wP g E2 n2 H1 → va_S (gA g) s.heap H1 locs1 → W p l e R s m args below meth c H1 locs1 (cells + mc) (slots + ms) Q (F0 m (pc + 3) ls rest)) : W p l e R s m args below meth c H locs cells slots Q (F0 m pc ls st0) := by
  intro T hT X
  obtain ⟨v, st₀, t, T', L, h0, X', hL, e1, e2, ⟨⟨hv, hM'⟩, hz, hk⟩, st⟩ := hr T hT X
  cases hv
  rw [h0] at hz hk
  obtain ⟨t2, a1, b1⟩ := kk T'.heap (locs ++ L) (by rw [e1]; exact hM')
    ⟨Nat.le_trans hS.1 (by rw [e1]; exact hz), fun q h1 h2 => by rw [e1, hk q (Nat.lt_of_lt_of_le h1 hS.1) h2]; exact hS.2.1 q h1 h2, fun q hq => by
      rcases List.mem_append.mp hq with h | h
      · exact hS.2.2 q h
      · exact hL q h⟩ T' rfl X'
  exact ⟨t2, st t2 a1, b1⟩
section KCALL
variable {X : XT} {g : Gm} {cc : ByteArray} {nL : Nat} {own : String} {rf rl rc rs : Nat} {E : Nat → va_E} {n cs sl : Nat} {pc : Nat} {lv : List (Option Value)} {st : List Value}
variable {y : MethodName} {cy : ByteArray} {nLy rf2 rl2 mc ms na idx a : Nat} {As rest : List Value} {E2 : Nat → va_E} {n2 : Nat}
theorem k_callI (F : FK X g cc nL own rf rl rc rs) (w1 : Cond.methodLink own idx y ∈ lw_ws) (w2 : Cond.instanceMethod y ∈ lw_ws) (w3 : Cond.initialized y.cls ∈ lw_ws) (w4 : Cond.code y cy nLy none ∈ lw_ws) (w5 : y.name = "<init>") (w6 : okName y na) (hn : As.length = na) (hst : st = As.reverse ++ .ref a :: rest) (hcat : (rest.map fun v => v.category).sum ≤ 8) (hR : rf2 + 1 ≤ rf ∧ 8 + (nLy + 11) + rl2 ≤ rl) (hC : cs + mc ≤ rc ∧ sl + ms ≤ rs) (hd : decode cc pc = .ok (.invokespecial idx, 3))
    (hM2 : KCn X.2.1 y cy nLy rf2 rl2 mc ms g (.ref a :: As) E n E2 n2) (kk : KG X g nL E2 n2 (cs + mc) (sl + ms) (pc + 3) lv rest) : KG X g nL E n cs sl pc lv st := by
  obtain ⟨p, l, e, R, s, m, args, below, meth, c, cells, slots, Q⟩ := X
  obtain ⟨⟨hx, hb, hml, hown, hts⟩, hW, hrf, hrl, hrc, hrs, hgb⟩ := F
  intro H locs ls hP hS hL
  refine kn_call (va_runI (ws := wsM y cy nLy none) (rm := { frames := rf2, cells := mc, slots := ms, locals := rl2 }) (As := As) (rest := rest) ⟨hx, hb, hml, hown, hts⟩ hM2 (cwI na hts (ws_good (wsM_in w4)) rfl rfl rfl (hts _ w3) (hts _ w1) (hts _ w2) w5 w6 ?_) ⟨kn_blind, fun U hU hWU => ⟨rfl, hW.warm hWU, by rw [hU]; exact hP⟩⟩ rfl hn hL.1 hst (lv_room hcat) hd ⟨by rw [hrc]; exact hC.1, by rw [hrs]; exact hC.2⟩) hS (fun H1 locs1 hP1 hS1 => kk H1 locs1 ls hP1 hS1 hL)
  rw [hrf, hrl]
  exact hR
theorem k_callIN (F : FK X g cc nL own rf rl rc rs) (w1 : Cond.methodLinkNest own idx y "RenewalClocks" ∈ nestW) (w2 : Cond.instanceMethod y ∈ lw_ws) (w3 : Cond.initialized y.cls ∈ lw_ws) (w4 : Cond.code y cy nLy none ∈ lw_ws) (w5 : y.name = "<init>") (w6 : okName y na) (hn : As.length = na) (hst : st = As.reverse ++ .ref a :: rest) (hcat : (rest.map fun v => v.category).sum ≤ 8) (hR : rf2 + 1 ≤ rf ∧ 8 + (nLy + 11) + rl2 ≤ rl) (hC : cs + mc ≤ rc ∧ sl + ms ≤ rs) (hd : decode cc pc = .ok (.invokespecial idx, 3))
    (hM2 : KCn X.2.1 y cy nLy rf2 rl2 mc ms g (.ref a :: As) E n E2 n2) (kk : KG X g nL E2 n2 (cs + mc) (sl + ms) (pc + 3) lv rest) : KG X g nL E n cs sl pc lv st := by
  obtain ⟨p, l, e, R, s, m, args, below, meth, c, cells, slots, Q⟩ := X
  obtain ⟨⟨hx, hb, hml, hown, hts⟩, hW, hrf, hrl, hrc, hrs, hgb⟩ := F
  intro H locs ls hP hS hL
  refine kn_call (va_runIN (host := "RenewalClocks") (ws := wsM y cy nLy none) (rm := { frames := rf2, cells := mc, slots := ms, locals := rl2 }) (As := As) (rest := rest) ⟨hx, hb, hml, hown, hts⟩ hM2 ⟨va_cnB na hts (ws_good (wsM_in w4)) rfl rfl rfl (hW.1.2.2.2 _ w1) (hts _ w3) w6 ?_, w5, hts _ w2⟩ ⟨kn_blind, fun U hU hWU => ⟨rfl, hW.warm hWU, by rw [hU]; exact hP⟩⟩ rfl hn hL.1 hst (lv_room hcat) hd ⟨by rw [hrc]; exact hC.1, by rw [hrs]; exact hC.2⟩) hS (fun H1 locs1 hP1 hS1 => kk H1 locs1 ls hP1 hS1 hL)
  rw [hrf, hrl]
  exact hR
end KCALL
def RK (X : XT) (g : Gm) (E : Nat → va_E) (n mc ms : Nat) : Prop := match X with
  | (_, _, _, _, s, _, args, below, meth, _, _, _, Q) => meth.sig.returnType = none ∧ meth.locks = false ∧ Q = MQ below (fun _ st o t => qK g E n st o t) args s mc ms (gA g)
theorem k_vret {X : XT} {g : Gm} {cc : ByteArray} {nL : Nat} {own : String} {rf rl rc rs : Nat} {E : Nat → va_E} {n mc ms : Nat} {pc : Nat} {lv : List (Option Value)} (F : FK X g cc nL own rf rl rc rs) (r : RK X g E n mc ms) (hd : decode cc pc = .ok (.return_, 1)) : KG X g nL E n mc ms pc lv [] := by
  obtain ⟨p, l, e, R, s, m, args, below, meth, c, cells, slots, Q⟩ := X
  obtain ⟨⟨hx, hb, hml, hown, hts⟩, hW, hrf, hrl, hrc, hrs, hgb⟩ := F
  intro H locs ls hP hS hL
  obtain ⟨hr, hlk, rfl⟩ := r
  exact W.vret hx hb hr (fun t ht hWt => ⟨⟨rfl, by rw [ht]; exact hP⟩, hS.F ht⟩) hS.2.2 hd hlk
theorem KCn.intro {l : Launch} {y : MethodName} {cy : ByteArray} {nL rf rl mc ms : Nat} {g : Gm} {av : List Value} {E : Nat → va_E} {n : Nat} {E2 : Nat → va_E} {n2 : Nat} {lv0 : List (Option Value)} (kp : Nat) (hy : plainName y.cls = true) (hyn : y.name = "<init>") (hlen : (lg_sl av).length ≤ nL) (hlv : lvE av ++ List.replicate kp none = lv0)
    (body : ∀ X : XT, FK X g cy nL y.cls rf rl mc ms → RK X g E2 n2 mc ms → XI X → KG X g nL E n 0 0 0 lv0 []) : KCn l y cy nL rf rl mc ms g av E n E2 n2 := by
  refine Met.ofW (ws := wsM y cy nL none) (ws' := lw_ws) (cc := cy) (maxL := nL) (ret := none) hy rfl ?_
  intro p e s m args below meth c s₁ B hml hv
  obtain ⟨rfl, hW, hP⟩ := hv
  have hts := atoms_spec (ws := wsM y cy nL none) B.pre
  have hl := lv_entry av (n := nL) hlen
  have hin : meth.name = "<init>" := (name_of_methodNamed B.named B.method).1.trans hyn
  rw [lg_entry_eq]
  refine body (p, l, e, _, s, m, av.toArray, below, meth, c, 0, 0, _) ⟨⟨B.exec, B.bytes, hml, findClass_of_methodNamed B.named, fun w hw => hts w (List.mem_cons_of_mem _ hw)⟩, hW, rfl, rfl, rfl, rfl, by rw [hP.2]; exact Nat.le_add_right _ _⟩ ⟨B.returns, B.notSynchronized, rfl⟩ hin s.heap [] _ hP va_S.rf (lhas.of hl (fun i v hi => ?_))
  rw [← hlv] at hi
  have := lvE_sound kp av 0 i v hi
  rwa [Nat.zero_add] at this
/-! entries that say the same of the heap -/
def eqE (x y : va_E) : Prop := x = y ∨ ∃ (cA : ClassId) (N : Nat) (f f' : Nat → Option Nat), x = rarr cA N f ∧ y = rarr cA N f' ∧ ∀ j, j < N → f j = f' j
theorem arrV_congr (cA : ClassId) {N : Nat} {f f' : Nat → Value} (h : ∀ j, j < N → f j = f' j) : arrV cA N f = arrV cA N f' := by
  unfold arrV
  congr 2
  funext j
  exact h j.val j.isLt
theorem wP.congr {g : Gm} {E E' : Nat → va_E} {n : Nat} {H : Heap} (h : wP g E n H) (e : ∀ k, k < n → eqE (E k) (E' k)) : wP g E' n H := by
  refine ⟨fun k q hq => ?_, h.2⟩
  have hk : k < n := by
    have := (List.getElem?_eq_some_iff.mp hq).1
    simpa [cW] using this
  rw [cW_at g _ hk] at hq
  cases hq
  have h1 := h.1 k _ (cW_at g E hk)
  rcases e k hk with e1 | ⟨cA, N, f, f', e1, e2, e3⟩
  · rw [← e1]
    exact h1
  · rw [e1] at h1
    rw [e2]
    show H[ad g k]? = some (vp_cell _ _)
    have h2 : H[ad g k]? = some (vp_cell cA (N, .inr (.inr (.inr (.inr f))))) := h1
    rw [h2, vp_cell_q, vp_cell_q, arrV_congr cA (f := fun j => va_rf (f j)) (f' := fun j => va_rf (f' j)) (fun j hj => by rw [e3 j hj])]
theorem KG.eqv {X : XT} {g : Gm} {nL : Nat} {E E' : Nat → va_E} {n cs sl pc : Nat} {lv : List (Option Value)} {st : List Value} (he : ∀ k, k < n → eqE (E k) (E' k)) (k : KG X g nL E' n cs sl pc lv st) : KG X g nL E n cs sl pc lv st := by
  obtain ⟨p, l, e, R, s, m, args, below, meth, c, cells, slots, Q⟩ := X
  intro H locs ls hP hS hL
  exact k H locs ls (hP.congr he) hS hL
