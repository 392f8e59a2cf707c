/-! ONE MEMORY: every cell of the class and of the check stands at a fixed place k < 228, its address is ad k; what it holds is M k : Nat → Int32 (references are fixed by the place, but the rows of the history). -/
abbrev Mem : Type := Nat → Nat → Int32
/-- the remainder as the machine makes it -/
def jrem (x y : Int32) : Int32 := x - x / y * y
def upd2 (M : Mem) (k j : Nat) (v : Int32) : Mem := fun a => if a = k then upd (M k) j v else M a
/-- class ids and slots; array classes; addresses; where the world begins -/
abbrev Gm : Type := va_G × (Nat → ClassId) × (Nat → Nat) × Nat
abbrev gD (g : Gm) : va_G := g.1
abbrev gC (g : Gm) : Nat → ClassId := g.2.1
abbrev ad (g : Gm) : Nat → Nat := g.2.2.1
abbrev gB (g : Gm) : Nat := g.2.2.2
abbrev gA (g : Gm) : Nat → Prop := fun q => gB g ≤ q
/-- kinds of places: 0..8 the classes as vwCl has them; 9..13 int arrays of 4, 5, 48, 42, 16; 14 the signs; 15 clocks, 16 groups, 17 slots -/
def hk0 (x : Nat) : Nat := if x = 0 then 3 else if x = 1 then 15 else if x = 2 then 16 else if x < 27 then (if (x - 3) % 4 = 0 then 0 else if (x - 3) % 4 = 1 then 9 else 1) else 2
def kd (k : Nat) : Nat := if k = 0 then 7 else if k < 63 then hk0 ((k - 1) % 31) else if k = 63 then 4 else if k = 64 then 17 else if k < 220 then hk0 ((k - 65) % 31) else
  if k = 220 then 6 else if k = 221 then 14 else if k = 222 then 5 else if k = 223 then 10 else if k = 224 then 9 else if k = 225 then 11 else if k = 226 then 12 else if k = 227 then 13 else 99
/-- what an object's fields are: none an int, some f the cell at place f k -/
def tpl (c : Nat) : List (Option (Nat → Nat)) := match c with
  | 0 => [none, some (fun k => k + 1), none, none, none, none, none, none, some (fun k => k + 2), some (fun k => k + 3)]
  | 1 => [none, none, none, none, none]
  | 2 => [none, none, none, none]
  | 3 => [some (fun k => k + 1), none, some (fun k => k + 2), none, none, none]
  | 4 => [some (fun k => k + 1), none]
  | 5 => [some (fun _ => 220), some (fun k => k + 1), none, none, none, none, none]
  | 6 => [some (fun k => k + 1), none]
  | 7 => [some (fun _ => 1), some (fun _ => 32), some (fun _ => 63), some (fun _ => 220), some (fun _ => 222)]
  | _ => [some (fun k => k + 1), some (fun k => k + 2), some (fun k => k + 3), some (fun k => k + 4), none, none, some (fun k => k + 5), none, none, none, none, none, none, none, some (fun k => k + 6)]
def rv (g : Gm) (M : Mem) (k j : Nat) (t : Option (Nat → Nat)) : Value := match t with
  | none => .int (M k j)
  | some f => .ref (ad g (f k))
def wF (g : Gm) (M : Mem) (k : Nat) : Nat → List (Option (Nat → Nat)) → List Value
  | _, [] => []
  | j, t :: ts => rv g M k j t :: wF g M k (j + 1) ts
/-- int arrays -/
def iarr (c : Nat) : Option Nat := match c with
  | 9 => some 4
  | 10 => some 5
  | 11 => some 48
  | 12 => some 42
  | 13 => some 16
  | _ => none
def wA (g : Gm) (M : Mem) (k c : Nat) : ClassId × vp_A :=
  if c = 14 then (gC g 1, 60, .inl (M k)) else if c = 15 then (gC g 2, 6, .inr (.inr (.inr (.inr (fun j => some (ad g (k + 2 + 4 * j)))))))
  else if c = 16 then (gC g 3, 4, .inr (.inr (.inr (.inr (fun j => some (ad g (k + 25 + j)))))))
  else if c = 17 then (gC g 4, 5, .inr (.inr (.inr (.inr (fun j => some (ad g (65 + 31 * (M k j).toNatClampNeg)))))))
  else (gC g 0, (iarr c).getD 0, .inl (M k))
def wE (g : Gm) (M : Mem) (k : Nat) : va_E := if kd k < 9 then .inr (kd k, wF g M k 0 (tpl (kd k))) else .inl (wA g M k (kd k))
def wTys (g : Gm) : List (ClassId × FieldType) := [(gC g 0, .int), (gC g 1, .char), (gC g 2, .object RX0), (gC g 3, .object RX2), (gC g 4, .object RX3)]
def wWs (g : Gm) (M : Mem) : va_W := (List.range 228).map (fun k => (ad g k, wE g M k))
/-- what of the world doesn't change: addresses apart, classes and array classes, links between nest mates -/
def wOK (g : Gm) (U : State) : Prop := (∀ i j, i < 228 → j < 228 → ad g i = ad g j → i = j) ∧ (∀ k, k < 228 → gB g ≤ ad g k) ∧ va_K (gD g) vwCl (wTys g) U ∧ ∀ w ∈ nestW, va_Nw w U
def hM (g : Gm) (M : Mem) (H : Heap) : Prop := va_P (gD g) vwCl (wWs g M) H
theorem wWs_at (g : Gm) (M : Mem) {k : Nat} (hk : k < 228) : (wWs g M)[k]? = some (ad g k, wE g M k) := by simp [wWs, hk]
theorem wWs_D {g : Gm} {U : State} (h : wOK g U) (M : Mem) : va_D (gA g) (wWs g M) := by
  have at' : ∀ {k : Nat} {q : Nat × va_E}, (wWs g M)[k]? = some q → k < 228 ∧ q.1 = ad g k := by
    intro k q hq
    have hk : k < 228 := by
      have := (List.getElem?_eq_some_iff.mp hq).1
      simpa [wWs] using this
    rw [wWs_at g M hk] at hq
    exact ⟨hk, by rw [← Option.some.inj hq]⟩
  refine ⟨fun i j p q hi hj hpq => ?_, fun k q hq => ?_⟩
  · obtain ⟨a1, a2⟩ := at' hi
    obtain ⟨b1, b2⟩ := at' hj
    exact h.1 i j a1 b1 (by rw [← a2, ← b2]; exact hpq)
  · obtain ⟨a1, a2⟩ := at' hq
    show gB g ≤ q.1
    rw [a2]; exact h.2.1 k a1
theorem wWs_set (g : Gm) {M M' : Mem} {k : Nat} (hk : k < 228) {e : va_E} (h1 : wE g M' k = e) (h2 : ∀ j, j ≠ k → wE g M' j = wE g M j) : (wWs g M).set k (ad g k, e) = wWs g M' := by
  apply List.ext_getElem?
  intro i
  by_cases hi : i < 228
  · by_cases hik : i = k
    · subst hik
      rw [wWs_at g M' hi, List.getElem?_set_self (by simp [wWs]; exact hi), h1]
    · rw [List.getElem?_set_ne (fun h => hik h.symm), wWs_at g M hi, wWs_at g M' hi, h2 i hik]
  · rw [List.getElem?_eq_none (by simp [wWs]; omega), List.getElem?_eq_none (by simp [wWs]; omega)]
theorem wE_row (g : Gm) {M M' : Mem} {k : Nat} (h : M' k = M k) : wE g M' k = wE g M k := by
  have h1 : ∀ (ts : List (Option (Nat → Nat))) (j : Nat), wF g M' k j ts = wF g M k j ts := by
    intro ts
    induction ts with
    | nil => intro j; rfl
    | cons t ts ih =>
      intro j
      show rv g M' k j t :: _ = rv g M k j t :: _
      rw [ih]
      cases t <;> simp [rv, h]
  unfold wE wA
  rw [h1, h]
theorem upd2_ne (M : Mem) {k a : Nat} (j : Nat) (v : Int32) (h : a ≠ k) : upd2 M k j v a = M a := by simp [upd2, h]
theorem upd2_row (M : Mem) (k j : Nat) (v : Int32) : upd2 M k j v k = upd (M k) j v := by simp [upd2]
theorem kd_lt {k c : Nat} (h : kd k = c) (hc : c < 99) : k < 228 := by
  rcases Nat.lt_or_ge k 228 with q | q
  · exact q
  · exfalso
    have : kd k = 99 := by
      unfold kd
      rw [if_neg (by omega), if_neg (by omega), if_neg (by omega), if_neg (by omega), if_neg (by omega), if_neg (by omega), if_neg (by omega), if_neg (by omega), if_neg (by omega), if_neg (by omega), if_neg (by omega), if_neg (by omega), if_neg (by omega)]
    omega
theorem wF_at (g : Gm) (M : Mem) (k : Nat) : ∀ (ts : List (Option (Nat → Nat))) (j0 j : Nat) {t : Option (Nat → Nat)}, ts[j]? = some t → (wF g M k j0 ts)[j]? = some (rv g M k (j0 + j) t) := by
  intro ts
  induction ts with
  | nil => intro j0 j t h; simp at h
  | cons a ts ih =>
    intro j0 j t h
    cases j with
    | zero =>
      simp at h
      subst h
      simp [wF]
    | succ j =>
      simp at h
      have := ih (j0 + 1) j h
      simp only [wF, List.getElem?_cons_succ]
      rw [this]
      congr 2
      omega
theorem wF_len (g : Gm) (M : Mem) (k : Nat) : ∀ (ts : List (Option (Nat → Nat))) (j0 : Nat), (wF g M k j0 ts).length = ts.length := by
  intro ts
  induction ts with
  | nil => intro j0; rfl
  | cons a ts ih => intro j0; simp [wF, ih]
theorem wF_set (g : Gm) (M : Mem) (k j : Nat) (x : Int32) : ∀ (ts : List (Option (Nat → Nat))) (j0 i : Nat), j0 + i = j → ts[i]? = some none → (wF g M k j0 ts).set i (.int x) = wF g (upd2 M k j x) k j0 ts := by
  have off : ∀ (ts : List (Option (Nat → Nat))) (j0 : Nat), j < j0 → wF g (upd2 M k j x) k j0 ts = wF g M k j0 ts := by
    intro ts
    induction ts with
    | nil => intro j0 _; rfl
    | cons t ts ih =>
      intro j0 hj
      simp only [wF]
      rw [ih (j0 + 1) (by omega)]
      congr 1
      cases t with
      | none => simp only [rv]; rw [upd2_row]; unfold upd; rw [if_neg (by omega)]
      | some f => rfl
  intro ts
  induction ts with
  | nil => intro j0 i _ h; simp at h
  | cons t ts ih =>
    intro j0 i hij h
    cases i with
    | zero =>
      simp at h
      subst h
      simp only [wF, List.set_cons_zero]
      rw [off ts (j0 + 1) (by omega)]
      congr 1
      simp only [rv]
      rw [upd2_row]
      unfold upd
      rw [if_pos (by omega)]
    | succ i =>
      simp at h
      simp only [wF, List.set_cons_succ]
      rw [ih (j0 + 1) i (by omega) h]
      congr 1
      cases t with
      | none => simp only [rv]; rw [upd2_row]; unfold upd; rw [if_neg (by omega)]
      | some f => rfl
theorem wE_obj (g : Gm) (M : Mem) {k c : Nat} (h : kd k = c) (hc : c < 9) : wE g M k = .inr (c, wF g M k 0 (tpl c)) := by
  unfold wE
  rw [h, if_pos hc]
theorem wE_arr (g : Gm) (M : Mem) {k c : Nat} (h : kd k = c) (hc : ¬ c < 9) : wE g M k = .inl (wA g M k c) := by
  unfold wE
  rw [h, if_neg hc]
theorem wE_iarr (g : Gm) (M : Mem) {k c n : Nat} (h : kd k = c) (hn : iarr c = some n) : wE g M k = .inl (gC g 0, n, .inl (M k)) := by
  have hc : c = 9 ∨ c = 10 ∨ c = 11 ∨ c = 12 ∨ c = 13 := by
    unfold iarr at hn
    split at hn <;> simp_all
  rw [wE_arr g M h (by omega)]
  unfold wA
  rw [if_neg (by omega), if_neg (by omega), if_neg (by omega), if_neg (by omega), hn]
  rfl
/-! locals, dense: at i what is known of slot i -/
def lg : List (Option Value) → Nat → Option Value
  | [], _ => none
  | a :: _, 0 => a
  | _ :: l, n + 1 => lg l n
def lst : List (Option Value) → Nat → Option Value → List (Option Value)
  | [], _, _ => []
  | _ :: l, 0, v => v :: l
  | a :: l, n + 1, v => a :: lst l n v
def lhas (ls : Array Slot) (nL : Nat) (lv : List (Option Value)) : Prop := ls.size = nL ∧ lv_wf ls ∧ ∀ i v, lg lv i = some v → ls[i]? = some (.val v)
def lok (lv : List (Option Value)) (i : Nat) : Bool := match i with
  | 0 => true
  | i + 1 => match lg lv i with
    | some w => !(w.category == 2)
    | none => true
/-- less is known -/
def lsub : List (Option Value) → List (Option Value) → Prop
  | _, [] => True
  | [], none :: r => lsub [] r
  | [], some _ :: _ => False
  | _ :: l, none :: r => lsub l r
  | a :: l, some v :: r => a = some v ∧ lsub l r
theorem lg_lst : ∀ (lv : List (Option Value)) (i j : Nat) (v : Option Value), lg (lst lv i v) j = if j = i ∧ i < lv.length then v else lg lv j := by
  intro lv
  induction lv with
  | nil => intro i j v; simp [lst, lg]
  | cons a l ih =>
    intro i j v
    cases i with
    | zero => cases j <;> simp [lst, lg]
    | succ i =>
      cases j with
      | zero => simp [lst, lg]
      | succ j => simp only [lst, lg, ih]; simp
theorem lg_lt : ∀ (lv : List (Option Value)) (i : Nat) {v : Value}, lg lv i = some v → i < lv.length := by
  intro lv
  induction lv with
  | nil => intro i v h; simp [lg] at h
  | cons a l ih =>
    intro i v h
    cases i with
    | zero => simp
    | succ i => have := ih i h; simp; omega
theorem lsub_sound : ∀ (lv r : List (Option Value)), lsub lv r → ∀ i v, lg r i = some v → lg lv i = some v := by
  intro lv
  induction lv with
  | nil =>
    intro r
    induction r with
    | nil => intro _ i v h; simp [lg] at h
    | cons b r ih =>
      intro h i v hi
      cases b with
      | none =>
        cases i with
        | zero => simp [lg] at hi
        | succ i => have := ih h i v hi; simp [lg] at this
      | some w => exact h.elim
  | cons a l ih =>
    intro r h i v hi
    cases r with
    | nil => simp [lg] at hi
    | cons b r =>
      cases b with
      | none =>
        cases i with
        | zero => simp [lg] at hi
        | succ i => exact ih r h i v hi
      | some w =>
        cases i with
        | zero => simp only [lg] at hi ⊢; rw [h.1]; exact hi
        | succ i => exact ih r h.2 i v hi
def lasc (lv : List (Option Value)) : List (Nat × Value) := (List.range lv.length).filterMap (fun i => (lg lv i).map (fun v => (i, v)))
theorem lasc_mem (lv : List (Option Value)) (q : Nat × Value) : q ∈ lasc lv ↔ lg lv q.1 = some q.2 := by
  obtain ⟨i, v⟩ := q
  simp only [lasc, List.mem_filterMap, List.mem_range, Option.map_eq_some_iff, Prod.mk.injEq]
  constructor
  · rintro ⟨a, h1, b, h2, rfl, rfl⟩; exact h2
  · intro h; exact ⟨i, lg_lt lv i h, v, h, rfl, rfl⟩
theorem lhas.asc {ls : Array Slot} {nL : Nat} {lv : List (Option Value)} (h : lhas ls nL lv) : lv_has ls nL (lasc lv) := ⟨h.1, h.2.1, fun q hq => h.2.2 _ _ ((lasc_mem lv q).mp hq)⟩
theorem lhas.of {ls : Array Slot} {nL : Nat} {l : List (Nat × Value)} {lv : List (Option Value)} (h : lv_has ls nL l) (hl : ∀ i v, lg lv i = some v → (i, v) ∈ l) : lhas ls nL lv := ⟨h.1, h.2.1, fun i v hi => h.2.2 (i, v) (hl i v hi)⟩
theorem lhas.sub {ls : Array Slot} {nL : Nat} {lv r : List (Option Value)} (h : lhas ls nL lv) (hs : lsub lv r) : lhas ls nL r := ⟨h.1, h.2.1, fun i v hi => h.2.2 i v (lsub_sound lv r hs i v hi)⟩
theorem lhas.set1 {ls : Array Slot} {nL : Nat} {lv : List (Option Value)} {i : Nat} {v : Value} (ho : lok lv i = true) (h : lv_has ls nL ((i, v) :: (lasc lv).filter (fun q => !(q.1 == i) && !(q.1 + 1 == i && q.2.category == 2)))) : lhas ls nL (lst lv i (some v)) := by
  refine lhas.of h (fun j w hj => ?_)
  rw [lg_lst] at hj
  by_cases hc : j = i ∧ i < lv.length
  · rw [if_pos hc] at hj
    cases hj
    rw [hc.1]
    exact List.mem_cons_self
  · rw [if_neg hc] at hj
    have hji : ¬ j = i := fun e => hc ⟨e, e ▸ lg_lt lv j hj⟩
    refine List.mem_cons_of_mem _ (List.mem_filter.mpr ⟨(lasc_mem lv (j, w)).mpr hj, ?_⟩)
    have h2 : ¬ (j + 1 = i ∧ w.category = 2) := by
      rintro ⟨e, hw⟩
      subst e
      simp [lok, hj, hw] at ho
    simp only [Bool.and_eq_true, Bool.not_eq_true', beq_eq_false_iff_ne, ne_eq, Bool.and_eq_false_iff]
    refine ⟨hji, ?_⟩
    by_cases hx : j + 1 = i
    · exact Or.inr (fun e => h2 ⟨hx, e⟩)
    · exact Or.inl hx
theorem lhas.set2 {ls : Array Slot} {nL : Nat} {lv : List (Option Value)} {i : Nat} {v : Value} (ho : lok lv i = true) (h : lv_has ls nL ((i, v) :: (lasc lv).filter (fun q => !(q.1 == i) && (!(q.1 == i + 1) && !(q.1 + 1 == i && q.2.category == 2))))) : lhas ls nL (lst (lst lv i (some v)) (i + 1) none) := by
  refine lhas.of h (fun j w hj => ?_)
  rw [lg_lst] at hj
  split at hj
  · cases hj
  · rename_i hj1
    rw [lg_lst] at hj
    have hlen : (lst lv i (some v)).length = lv.length := by
      have : ∀ (l : List (Option Value)) (i : Nat), (lst l i (some v)).length = l.length := by
        intro l
        induction l with
        | nil => intro i; rfl
        | cons a l ih => intro i; cases i <;> simp [lst, ih]
      exact this lv i
    rw [hlen] at hj1
    by_cases hc : j = i ∧ i < lv.length
    · rw [if_pos hc] at hj
      cases hj
      rw [hc.1]
      exact List.mem_cons_self
    · rw [if_neg hc] at hj
      have hlt := lg_lt lv j hj
      have hji : ¬ j = i := fun e => hc ⟨e, e ▸ hlt⟩
      have hji1 : ¬ j = i + 1 := fun e => hj1 ⟨e, e ▸ hlt⟩
      refine List.mem_cons_of_mem _ (List.mem_filter.mpr ⟨(lasc_mem lv (j, w)).mpr hj, ?_⟩)
      have h2 : ¬ (j + 1 = i ∧ w.category = 2) := by
        rintro ⟨e, hw⟩
        subst e
        simp [lok, hj, hw] at ho
      simp only [Bool.and_eq_true, Bool.not_eq_true', beq_eq_false_iff_ne, ne_eq, Bool.and_eq_false_iff]
      refine ⟨hji, hji1, ?_⟩
      by_cases hx : j + 1 = i
      · exact Or.inr (fun e => h2 ⟨hx, e⟩)
      · exact Or.inl hx
/-! the frame of a walk, and the judgement -/
abbrev XT : Type := Program × Launch × Env × Room × State × MethodId × Array Value × List Frame × Method × Code × Nat × Nat × (State → Prop)
def FX (X : XT) (g : Gm) (cc : ByteArray) (nL : Nat) (own : String) (rf rl : Nat) : Prop := match X with
  | (p, _, _, R, s, m, args, _, _, c, cells, slots, _) => CallFix p m c cc nL s args lw_ws own ∧ wOK g s ∧ R.frames = rf ∧ R.locals = rl ∧ cells ≤ R.cells ∧ slots ≤ R.slots ∧ gB g ≤ s.heap.size
def G (X : XT) (g : Gm) (nL : Nat) (M : Mem) (pc : Nat) (lv : List (Option Value)) (st : List Value) : Prop := match X with
  | (p, l, e, R, s, m, args, below, meth, c, cells, slots, Q) => ∀ (H : Heap) (locs : List Loc) (ls : Array Slot), hM g M H → va_S (gA g) s.heap H locs → lhas ls nL lv → W p l e R s m args below meth c H locs cells slots Q (F0 m pc ls st)
section GROWS
variable {X : XT} {g : Gm} {cc : ByteArray} {nL : Nat} {own : String} {rf rl : Nat} {M : Mem} {pc : Nat} {lv : List (Option Value)} {st : List Value}
theorem G.sub (r : List (Option Value)) (hs : lsub lv r) (k : G X g nL M pc r st) : G X g nL M pc lv st := by
  obtain ⟨p, l, e, R, s, m, args, below, meth, c, cells, slots, Q⟩ := X
  intro H locs ls hP hS hL
  exact k H locs ls hP hS (hL.sub hs)
theorem G.eq {pc' : Nat} (h : pc' = pc) (k : G X g nL M pc lv st) : G X g nL M pc' lv st := h ▸ k
theorem G.mem {M' : Mem} (h : M = M') (k : G X g nL M' pc lv st) : G X g nL M pc lv st := h ▸ k

theorem g_iconst (F : FX X g cc nL own rf rl) {n : Int} {v : Int32} (hd : decode cc pc = .ok (.iconst n, 1)) (hv : Int32.ofInt n = v) (k : G X g nL M (pc + 1) lv (.int v :: st)) : G X g nL M pc lv st := by
  obtain ⟨p, l, e, R, s, m, args, below, meth, c, cells, slots, Q⟩ := X
  obtain ⟨⟨hx, hb, hml, hown, hts⟩, hW, hrf, hrl, hcl, hsl, hgb⟩ := F
  intro H locs ls hP hS hL
  exact lv_iconst hx hb hd hv (k H locs ls hP hS hL)
theorem g_bipush (F : FX X g cc nL own rf rl) {n : Int} {v : Int32} (hd : decode cc pc = .ok (.bipush n, 2)) (hv : (Int8.ofInt n).toInt32 = v) (k : G X g nL M (pc + 2) lv (.int v :: st)) : G X g nL M pc lv st := by
  obtain ⟨p, l, e, R, s, m, args, below, meth, c, cells, slots, Q⟩ := X
  obtain ⟨⟨hx, hb, hml, hown, hts⟩, hW, hrf, hrl, hcl, hsl, hgb⟩ := F
  intro H locs ls hP hS hL
  exact lv_bipush hx hb hd hv (k H locs ls hP hS hL)
theorem g_sipush (F : FX X g cc nL own rf rl) {n : Int} {v : Int32} (hd : decode cc pc = .ok (.sipush n, 3)) (hv : (Int16.ofInt n).toInt32 = v) (k : G X g nL M (pc + 3) lv (.int v :: st)) : G X g nL M pc lv st := by
  obtain ⟨p, l, e, R, s, m, args, below, meth, c, cells, slots, Q⟩ := X
  obtain ⟨⟨hx, hb, hml, hown, hts⟩, hW, hrf, hrl, hcl, hsl, hgb⟩ := F
  intro H locs ls hP hS hL
  exact lv_sipush hx hb hd hv (k H locs ls hP hS hL)
theorem g_lconst (F : FX X g cc nL own rf rl) {n : Fin 2} {v : Int64} (hd : decode cc pc = .ok (.lconst n, 1)) (hv : Int64.ofNat (n : Nat) = v) (k : G X g nL M (pc + 1) lv (.long v :: st)) : G X g nL M pc lv st := by
  obtain ⟨p, l, e, R, s, m, args, below, meth, c, cells, slots, Q⟩ := X
  obtain ⟨⟨hx, hb, hml, hown, hts⟩, hW, hrf, hrl, hcl, hsl, hgb⟩ := F
  intro H locs ls hP hS hL
  exact lv_lconst hx hb hd hv (k H locs ls hP hS hL)
theorem g_dconst0 (F : FX X g cc nL own rf rl) (hd : decode cc pc = .ok (.dconst 0, 1)) (k : G X g nL M (pc + 1) lv (.double FP.dconst0 :: st)) : G X g nL M pc lv st := by
  obtain ⟨p, l, e, R, s, m, args, below, meth, c, cells, slots, Q⟩ := X
  obtain ⟨⟨hx, hb, hml, hown, hts⟩, hW, hrf, hrl, hcl, hsl, hgb⟩ := F
  intro H locs ls hP hS hL
  exact lv_dconst0 hx hb hd (k H locs ls hP hS hL)
theorem g_dconst1 (F : FX X g cc nL own rf rl) (hd : decode cc pc = .ok (.dconst 1, 1)) (k : G X g nL M (pc + 1) lv (.double FP.dconst1 :: st)) : G X g nL M pc lv st := by
  obtain ⟨p, l, e, R, s, m, args, below, meth, c, cells, slots, Q⟩ := X
  obtain ⟨⟨hx, hb, hml, hown, hts⟩, hW, hrf, hrl, hcl, hsl, hgb⟩ := F
  intro H locs ls hP hS hL
  exact lv_dconst1 hx hb hd (k H locs ls hP hS hL)
theorem g_ldc (F : FX X g cc nL own rf rl) {i : Nat} {v : Int32} (hw : Cond.constant own i v ∈ lw_ws) (hd : decode cc pc = .ok (.ldc i, 2)) (k : G X g nL M (pc + 2) lv (.int v :: st)) : G X g nL M pc lv st := by
  obtain ⟨p, l, e, R, s, m, args, below, meth, c, cells, slots, Q⟩ := X
  obtain ⟨⟨hx, hb, hml, hown, hts⟩, hW, hrf, hrl, hcl, hsl, hgb⟩ := F
  intro H locs ls hP hS hL
  exact lv_ldc hx hb hown (hts _ hw) hd (k H locs ls hP hS hL)
theorem g_ldcw (F : FX X g cc nL own rf rl) {i : Nat} {v : Int32} (hw : Cond.constant own i v ∈ lw_ws) (hd : decode cc pc = .ok (.ldc_w i, 3)) (k : G X g nL M (pc + 3) lv (.int v :: st)) : G X g nL M pc lv st := by
  obtain ⟨p, l, e, R, s, m, args, below, meth, c, cells, slots, Q⟩ := X
  obtain ⟨⟨hx, hb, hml, hown, hts⟩, hW, hrf, hrl, hcl, hsl, hgb⟩ := F
  intro H locs ls hP hS hL
  exact lv_ldcw hx hb hown (hts _ hw) hd (k H locs ls hP hS hL)
theorem g_ldc2 (F : FX X g cc nL own rf rl) {i : Nat} {v : Int64} (hw : Cond.constantLong own i v ∈ lw_ws) (hd : decode cc pc = .ok (.ldc2_w i, 3)) (k : G X g nL M (pc + 3) lv (.long v :: st)) : G X g nL M pc lv st := by
  obtain ⟨p, l, e, R, s, m, args, below, meth, c, cells, slots, Q⟩ := X
  obtain ⟨⟨hx, hb, hml, hown, hts⟩, hW, hrf, hrl, hcl, hsl, hgb⟩ := F
  intro H locs ls hP hS hL
  exact lv_ldc2 hx hb hown (hts _ hw) hd (k H locs ls hP hS hL)
theorem g_ldc2d (F : FX X g cc nL own rf rl) {i : Nat} {v : UInt64} (hw : Cond.constantDouble own i v ∈ lw_ws) (hd : decode cc pc = .ok (.ldc2_w i, 3)) (k : G X g nL M (pc + 3) lv (.double v :: st)) : G X g nL M pc lv st := by
  obtain ⟨p, l, e, R, s, m, args, below, meth, c, cells, slots, Q⟩ := X
  obtain ⟨⟨hx, hb, hml, hown, hts⟩, hW, hrf, hrl, hcl, hsl, hgb⟩ := F
  intro H locs ls hP hS hL
  exact lv_ldc2d hx hb hown (hts _ hw) hd (k H locs ls hP hS hL)
theorem g_null (F : FX X g cc nL own rf rl) (hd : decode cc pc = .ok (.aconst_null, 1)) (k : G X g nL M (pc + 1) lv (.null :: st)) : G X g nL M pc lv st := by
  obtain ⟨p, l, e, R, s, m, args, below, meth, c, cells, slots, Q⟩ := X
  obtain ⟨⟨hx, hb, hml, hown, hts⟩, hW, hrf, hrl, hcl, hsl, hgb⟩ := F
  intro H locs ls hP hS hL
  exact lv_null hx hb hd (k H locs ls hP hS hL)
theorem g_iload_n (F : FX X g cc nL own rf rl) {i : Fin 4} {x : Int32} (hd : decode cc pc = .ok (.iload_n i, 1)) (hl : lg lv (i : Nat) = some (.int x)) (k : G X g nL M (pc + 1) lv (.int x :: st)) : G X g nL M pc lv st := by
  obtain ⟨p, l, e, R, s, m, args, below, meth, c, cells, slots, Q⟩ := X
  obtain ⟨⟨hx, hb, hml, hown, hts⟩, hW, hrf, hrl, hcl, hsl, hgb⟩ := F
  intro H locs ls hP hS hL
  exact lv_iload_n hx hb hd rfl (hL.2.2 _ _ hl) (k H locs ls hP hS hL)
theorem g_iload (F : FX X g cc nL own rf rl) {i : Nat} {x : Int32} (hd : decode cc pc = .ok (.iload i, 2)) (hl : lg lv i = some (.int x)) (k : G X g nL M (pc + 2) lv (.int x :: st)) : G X g nL M pc lv st := by
  obtain ⟨p, l, e, R, s, m, args, below, meth, c, cells, slots, Q⟩ := X
  obtain ⟨⟨hx, hb, hml, hown, hts⟩, hW, hrf, hrl, hcl, hsl, hgb⟩ := F
  intro H locs ls hP hS hL
  exact lv_iload hx hb hd (hL.2.2 _ _ hl) (k H locs ls hP hS hL)
theorem g_lload (F : FX X g cc nL own rf rl) {i : Nat} {x : Int64} (hd : decode cc pc = .ok (.lload i, 2)) (hl : lg lv i = some (.long x)) (k : G X g nL M (pc + 2) lv (.long x :: st)) : G X g nL M pc lv st := by
  obtain ⟨p, l, e, R, s, m, args, below, meth, c, cells, slots, Q⟩ := X
  obtain ⟨⟨hx, hb, hml, hown, hts⟩, hW, hrf, hrl, hcl, hsl, hgb⟩ := F
  intro H locs ls hP hS hL
  exact lv_lload hx hb hd (hL.2.2 _ _ hl) (k H locs ls hP hS hL)
theorem g_dload_n (F : FX X g cc nL own rf rl) {i : Fin 4} {x : UInt64} (hd : decode cc pc = .ok (.dload_n i, 1)) (hl : lg lv (i : Nat) = some (.double x)) (k : G X g nL M (pc + 1) lv (.double x :: st)) : G X g nL M pc lv st := by
  obtain ⟨p, l, e, R, s, m, args, below, meth, c, cells, slots, Q⟩ := X
  obtain ⟨⟨hx, hb, hml, hown, hts⟩, hW, hrf, hrl, hcl, hsl, hgb⟩ := F
  intro H locs ls hP hS hL
  exact lv_dload_n hx hb hd rfl (hL.2.2 _ _ hl) (k H locs ls hP hS hL)
theorem g_aload_n (F : FX X g cc nL own rf rl) {i : Fin 4} {x : Nat} (hd : decode cc pc = .ok (.aload_n i, 1)) (hl : lg lv (i : Nat) = some (.ref x)) (k : G X g nL M (pc + 1) lv (.ref x :: st)) : G X g nL M pc lv st := by
  obtain ⟨p, l, e, R, s, m, args, below, meth, c, cells, slots, Q⟩ := X
  obtain ⟨⟨hx, hb, hml, hown, hts⟩, hW, hrf, hrl, hcl, hsl, hgb⟩ := F
  intro H locs ls hP hS hL
  exact lv_aload_n hx hb hd rfl (hL.2.2 _ _ hl) (k H locs ls hP hS hL)
theorem g_aload (F : FX X g cc nL own rf rl) {i : Nat} {x : Nat} (hd : decode cc pc = .ok (.aload i, 2)) (hl : lg lv i = some (.ref x)) (k : G X g nL M (pc + 2) lv (.ref x :: st)) : G X g nL M pc lv st := by
  obtain ⟨p, l, e, R, s, m, args, below, meth, c, cells, slots, Q⟩ := X
  obtain ⟨⟨hx, hb, hml, hown, hts⟩, hW, hrf, hrl, hcl, hsl, hgb⟩ := F
  intro H locs ls hP hS hL
  exact lv_aload hx hb hd (hL.2.2 _ _ hl) (k H locs ls hP hS hL)
theorem g_aload_nN (F : FX X g cc nL own rf rl) {i : Fin 4} (hd : decode cc pc = .ok (.aload_n i, 1)) (hl : lg lv (i : Nat) = some .null) (k : G X g nL M (pc + 1) lv (.null :: st)) : G X g nL M pc lv st := by
  obtain ⟨p, l, e, R, s, m, args, below, meth, c, cells, slots, Q⟩ := X
  obtain ⟨⟨hx, hb, hml, hown, hts⟩, hW, hrf, hrl, hcl, hsl, hgb⟩ := F
  intro H locs ls hP hS hL
  exact lv_aload_nN hx hb hd rfl (hL.2.2 _ _ hl) (k H locs ls hP hS hL)
theorem g_aloadN (F : FX X g cc nL own rf rl) {i : Nat} (hd : decode cc pc = .ok (.aload i, 2)) (hl : lg lv i = some .null) (k : G X g nL M (pc + 2) lv (.null :: st)) : G X g nL M pc lv st := by
  obtain ⟨p, l, e, R, s, m, args, below, meth, c, cells, slots, Q⟩ := X
  obtain ⟨⟨hx, hb, hml, hown, hts⟩, hW, hrf, hrl, hcl, hsl, hgb⟩ := F
  intro H locs ls hP hS hL
  exact lv_aloadN hx hb hd (hL.2.2 _ _ hl) (k H locs ls hP hS hL)
theorem g_istore_n (F : FX X g cc nL own rf rl) {i : Fin 4} {x : Int32} (hd : decode cc pc = .ok (.istore_n i, 1)) (hn : (i : Nat) < nL) (ho : lok lv (i : Nat) = true) (k : G X g nL M (pc + 1) (lst lv (i : Nat) (some (.int x))) st) : G X g nL M pc lv (.int x :: st) := by
  obtain ⟨p, l, e, R, s, m, args, below, meth, c, cells, slots, Q⟩ := X
  obtain ⟨⟨hx, hb, hml, hown, hts⟩, hW, hrf, hrl, hcl, hsl, hgb⟩ := F
  intro H locs ls hP hS hL
  exact lv_istore_n hx hb hd rfl hL.asc hn rfl (fun ls h => k H locs ls hP hS (lhas.set1 ho h))
theorem g_istore (F : FX X g cc nL own rf rl) {i : Nat} {x : Int32} (hd : decode cc pc = .ok (.istore i, 2)) (hn : i < nL) (ho : lok lv i = true) (k : G X g nL M (pc + 2) (lst lv i (some (.int x))) st) : G X g nL M pc lv (.int x :: st) := by
  obtain ⟨p, l, e, R, s, m, args, below, meth, c, cells, slots, Q⟩ := X
  obtain ⟨⟨hx, hb, hml, hown, hts⟩, hW, hrf, hrl, hcl, hsl, hgb⟩ := F
  intro H locs ls hP hS hL
  exact lv_istore hx hb hd hL.asc hn rfl (fun ls h => k H locs ls hP hS (lhas.set1 ho h))
theorem g_astore_n (F : FX X g cc nL own rf rl) {i : Fin 4} {x : Nat} (hd : decode cc pc = .ok (.astore_n i, 1)) (hn : (i : Nat) < nL) (ho : lok lv (i : Nat) = true) (k : G X g nL M (pc + 1) (lst lv (i : Nat) (some (.ref x))) st) : G X g nL M pc lv (.ref x :: st) := by
  obtain ⟨p, l, e, R, s, m, args, below, meth, c, cells, slots, Q⟩ := X
  obtain ⟨⟨hx, hb, hml, hown, hts⟩, hW, hrf, hrl, hcl, hsl, hgb⟩ := F
  intro H locs ls hP hS hL
  exact lv_astore_n hx hb hd rfl hL.asc hn rfl (fun ls h => k H locs ls hP hS (lhas.set1 ho h))
theorem g_astore (F : FX X g cc nL own rf rl) {i : Nat} {x : Nat} (hd : decode cc pc = .ok (.astore i, 2)) (hn : i < nL) (ho : lok lv i = true) (k : G X g nL M (pc + 2) (lst lv i (some (.ref x))) st) : G X g nL M pc lv (.ref x :: st) := by
  obtain ⟨p, l, e, R, s, m, args, below, meth, c, cells, slots, Q⟩ := X
  obtain ⟨⟨hx, hb, hml, hown, hts⟩, hW, hrf, hrl, hcl, hsl, hgb⟩ := F
  intro H locs ls hP hS hL
  exact lv_astore hx hb hd hL.asc hn rfl (fun ls h => k H locs ls hP hS (lhas.set1 ho h))
theorem g_lstore (F : FX X g cc nL own rf rl) {i : Nat} {x : Int64} (hd : decode cc pc = .ok (.lstore i, 2)) (hn : i + 1 < nL) (ho : lok lv i = true) (k : G X g nL M (pc + 2) (lst (lst lv i (some (.long x))) (i + 1) none) st) : G X g nL M pc lv (.long x :: st) := by
  obtain ⟨p, l, e, R, s, m, args, below, meth, c, cells, slots, Q⟩ := X
  obtain ⟨⟨hx, hb, hml, hown, hts⟩, hW, hrf, hrl, hcl, hsl, hgb⟩ := F
  intro H locs ls hP hS hL
  exact lv_lstore hx hb hd hL.asc hn rfl (fun ls h => k H locs ls hP hS (lhas.set2 ho h))
theorem g_dstore_n (F : FX X g cc nL own rf rl) {i : Fin 4} {x : UInt64} (hd : decode cc pc = .ok (.dstore_n i, 1)) (hn : (i : Nat) + 1 < nL) (ho : lok lv (i : Nat) = true) (k : G X g nL M (pc + 1) (lst (lst lv (i : Nat) (some (.double x))) ((i : Nat) + 1) none) st) : G X g nL M pc lv (.double x :: st) := by
  obtain ⟨p, l, e, R, s, m, args, below, meth, c, cells, slots, Q⟩ := X
  obtain ⟨⟨hx, hb, hml, hown, hts⟩, hW, hrf, hrl, hcl, hsl, hgb⟩ := F
  intro H locs ls hP hS hL
  exact lv_dstore_n hx hb hd rfl hL.asc hn rfl (fun ls h => k H locs ls hP hS (lhas.set2 ho h))
theorem g_dstore (F : FX X g cc nL own rf rl) {i : Nat} {x : UInt64} (hd : decode cc pc = .ok (.dstore i, 2)) (hn : i + 1 < nL) (ho : lok lv i = true) (k : G X g nL M (pc + 2) (lst (lst lv i (some (.double x))) (i + 1) none) st) : G X g nL M pc lv (.double x :: st) := by
  obtain ⟨p, l, e, R, s, m, args, below, meth, c, cells, slots, Q⟩ := X
  obtain ⟨⟨hx, hb, hml, hown, hts⟩, hW, hrf, hrl, hcl, hsl, hgb⟩ := F
  intro H locs ls hP hS hL
  exact lv_dstore hx hb hd hL.asc hn rfl (fun ls h => k H locs ls hP hS (lhas.set2 ho h))
theorem g_astore_nN (F : FX X g cc nL own rf rl) {i : Fin 4} (hd : decode cc pc = .ok (.astore_n i, 1)) (hn : (i : Nat) < nL) (ho : lok lv (i : Nat) = true) (k : G X g nL M (pc + 1) (lst lv (i : Nat) (some .null)) st) : G X g nL M pc lv (.null :: st) := by
  obtain ⟨p, l, e, R, s, m, args, below, meth, c, cells, slots, Q⟩ := X
  obtain ⟨⟨hx, hb, hml, hown, hts⟩, hW, hrf, hrl, hcl, hsl, hgb⟩ := F
  intro H locs ls hP hS hL
  exact lv_astore_nN hx hb hd rfl hL.asc hn rfl (fun ls h => k H locs ls hP hS (lhas.set1 ho h))
theorem g_astoreN (F : FX X g cc nL own rf rl) {i : Nat} (hd : decode cc pc = .ok (.astore i, 2)) (hn : i < nL) (ho : lok lv i = true) (k : G X g nL M (pc + 2) (lst lv i (some .null)) st) : G X g nL M pc lv (.null :: st) := by
  obtain ⟨p, l, e, R, s, m, args, below, meth, c, cells, slots, Q⟩ := X
  obtain ⟨⟨hx, hb, hml, hown, hts⟩, hW, hrf, hrl, hcl, hsl, hgb⟩ := F
  intro H locs ls hP hS hL
  exact lv_astoreN hx hb hd hL.asc hn rfl (fun ls h => k H locs ls hP hS (lhas.set1 ho h))
theorem g_iinc (F : FX X g cc nL own rf rl) {i : Nat} {n : Int} {x v : Int32} (hd : decode cc pc = .ok (.iinc i n, 3)) (hl : lg lv i = some (.int x)) (hv : x + Int32.ofInt n = v) (hn : i < nL) (ho : lok lv i = true) (k : G X g nL M (pc + 3) (lst lv i (some (.int v))) st) : G X g nL M pc lv st := by
  obtain ⟨p, l, e, R, s, m, args, below, meth, c, cells, slots, Q⟩ := X
  obtain ⟨⟨hx, hb, hml, hown, hts⟩, hW, hrf, hrl, hcl, hsl, hgb⟩ := F
  intro H locs ls hP hS hL
  obtain ⟨q, hq⟩ := List.getElem?_of_mem ((lasc_mem lv (i, .int x)).mpr hl)
  exact lv_iinc hx hb hd hL.asc hq hv hn rfl (fun ls h => k H locs ls hP hS (lhas.set1 ho h))
theorem g_iadd (F : FX X g cc nL own rf rl) {x y : Int32} (hd : decode cc pc = .ok (.iadd, 1)) (k : G X g nL M (pc + 1) lv (.int (x + y) :: st)) : G X g nL M pc lv (.int y :: .int x :: st) := by
  obtain ⟨p, l, e, R, s, m, args, below, meth, c, cells, slots, Q⟩ := X
  obtain ⟨⟨hx, hb, hml, hown, hts⟩, hW, hrf, hrl, hcl, hsl, hgb⟩ := F
  intro H locs ls hP hS hL
  exact lv_iadd hx hb hd (k H locs ls hP hS hL)
theorem g_isub (F : FX X g cc nL own rf rl) {x y : Int32} (hd : decode cc pc = .ok (.isub, 1)) (k : G X g nL M (pc + 1) lv (.int (x - y) :: st)) : G X g nL M pc lv (.int y :: .int x :: st) := by
  obtain ⟨p, l, e, R, s, m, args, below, meth, c, cells, slots, Q⟩ := X
  obtain ⟨⟨hx, hb, hml, hown, hts⟩, hW, hrf, hrl, hcl, hsl, hgb⟩ := F
  intro H locs ls hP hS hL
  exact lv_isub hx hb hd (k H locs ls hP hS hL)
theorem g_imul (F : FX X g cc nL own rf rl) {x y : Int32} (hd : decode cc pc = .ok (.imul, 1)) (k : G X g nL M (pc + 1) lv (.int (x * y) :: st)) : G X g nL M pc lv (.int y :: .int x :: st) := by
  obtain ⟨p, l, e, R, s, m, args, below, meth, c, cells, slots, Q⟩ := X
  obtain ⟨⟨hx, hb, hml, hown, hts⟩, hW, hrf, hrl, hcl, hsl, hgb⟩ := F
  intro H locs ls hP hS hL
  exact lv_imul hx hb hd (k H locs ls hP hS hL)
theorem g_iand (F : FX X g cc nL own rf rl) {x y : Int32} (hd : decode cc pc = .ok (.iand, 1)) (k : G X g nL M (pc + 1) lv (.int (x &&& y) :: st)) : G X g nL M pc lv (.int y :: .int x :: st) := by
  obtain ⟨p, l, e, R, s, m, args, below, meth, c, cells, slots, Q⟩ := X
  obtain ⟨⟨hx, hb, hml, hown, hts⟩, hW, hrf, hrl, hcl, hsl, hgb⟩ := F
  intro H locs ls hP hS hL
  exact lv_iand hx hb hd (k H locs ls hP hS hL)
theorem g_ior (F : FX X g cc nL own rf rl) {x y : Int32} (hd : decode cc pc = .ok (.ior, 1)) (k : G X g nL M (pc + 1) lv (.int (x ||| y) :: st)) : G X g nL M pc lv (.int y :: .int x :: st) := by
  obtain ⟨p, l, e, R, s, m, args, below, meth, c, cells, slots, Q⟩ := X
  obtain ⟨⟨hx, hb, hml, hown, hts⟩, hW, hrf, hrl, hcl, hsl, hgb⟩ := F
  intro H locs ls hP hS hL
  exact lv_ior hx hb hd (k H locs ls hP hS hL)
theorem g_ixor (F : FX X g cc nL own rf rl) {x y : Int32} (hd : decode cc pc = .ok (.ixor, 1)) (k : G X g nL M (pc + 1) lv (.int (x ^^^ y) :: st)) : G X g nL M pc lv (.int y :: .int x :: st) := by
  obtain ⟨p, l, e, R, s, m, args, below, meth, c, cells, slots, Q⟩ := X
  obtain ⟨⟨hx, hb, hml, hown, hts⟩, hW, hrf, hrl, hcl, hsl, hgb⟩ := F
  intro H locs ls hP hS hL
  exact lv_ixor hx hb hd (k H locs ls hP hS hL)
theorem g_idiv (F : FX X g cc nL own rf rl) {x y : Int32} (hne : ¬ y = 0) (hd : decode cc pc = .ok (.idiv, 1)) (k : G X g nL M (pc + 1) lv (.int (x / y) :: st)) : G X g nL M pc lv (.int y :: .int x :: st) := by
  obtain ⟨p, l, e, R, s, m, args, below, meth, c, cells, slots, Q⟩ := X
  obtain ⟨⟨hx, hb, hml, hown, hts⟩, hW, hrf, hrl, hcl, hsl, hgb⟩ := F
  intro H locs ls hP hS hL
  exact lv_idiv hx hb hd hne (k H locs ls hP hS hL)
theorem g_irem (F : FX X g cc nL own rf rl) {x y : Int32} (hne : ¬ y = 0) (hd : decode cc pc = .ok (.irem, 1)) (k : G X g nL M (pc + 1) lv (.int (jrem x y) :: st)) : G X g nL M pc lv (.int y :: .int x :: st) := by
  obtain ⟨p, l, e, R, s, m, args, below, meth, c, cells, slots, Q⟩ := X
  obtain ⟨⟨hx, hb, hml, hown, hts⟩, hW, hrf, hrl, hcl, hsl, hgb⟩ := F
  intro H locs ls hP hS hL
  exact lv_irem hx hb hd hne (k H locs ls hP hS hL)
theorem g_ineg (F : FX X g cc nL own rf rl) {x : Int32} (hd : decode cc pc = .ok (.ineg, 1)) (k : G X g nL M (pc + 1) lv (.int (-x) :: st)) : G X g nL M pc lv (.int x :: st) := by
  obtain ⟨p, l, e, R, s, m, args, below, meth, c, cells, slots, Q⟩ := X
  obtain ⟨⟨hx, hb, hml, hown, hts⟩, hW, hrf, hrl, hcl, hsl, hgb⟩ := F
  intro H locs ls hP hS hL
  exact lv_ineg hx hb hd (k H locs ls hP hS hL)
theorem g_ishl (F : FX X g cc nL own rf rl) {x y : Int32} (hd : decode cc pc = .ok (.ishl, 1)) (k : G X g nL M (pc + 1) lv (.int (x <<< (y &&& 31)) :: st)) : G X g nL M pc lv (.int y :: .int x :: st) := by
  obtain ⟨p, l, e, R, s, m, args, below, meth, c, cells, slots, Q⟩ := X
  obtain ⟨⟨hx, hb, hml, hown, hts⟩, hW, hrf, hrl, hcl, hsl, hgb⟩ := F
  intro H locs ls hP hS hL
  exact lv_ishl hx hb hd (k H locs ls hP hS hL)
theorem g_ishr (F : FX X g cc nL own rf rl) {x y : Int32} (hd : decode cc pc = .ok (.ishr, 1)) (k : G X g nL M (pc + 1) lv (.int (x >>> (y &&& 31)) :: st)) : G X g nL M pc lv (.int y :: .int x :: st) := by
  obtain ⟨p, l, e, R, s, m, args, below, meth, c, cells, slots, Q⟩ := X
  obtain ⟨⟨hx, hb, hml, hown, hts⟩, hW, hrf, hrl, hcl, hsl, hgb⟩ := F
  intro H locs ls hP hS hL
  exact lv_ishr hx hb hd (k H locs ls hP hS hL)
theorem g_iushr (F : FX X g cc nL own rf rl) {x y v : Int32} (hd : decode cc pc = .ok (.iushr, 1)) (hv : (x.toUInt32 >>> (y.toUInt32 &&& Int32.toUInt32 31)).toInt32 = v) (k : G X g nL M (pc + 1) lv (.int v :: st)) : G X g nL M pc lv (.int y :: .int x :: st) := by
  obtain ⟨p, l, e, R, s, m, args, below, meth, c, cells, slots, Q⟩ := X
  obtain ⟨⟨hx, hb, hml, hown, hts⟩, hW, hrf, hrl, hcl, hsl, hgb⟩ := F
  intro H locs ls hP hS hL
  exact lv_iushr hx hb hd hv (k H locs ls hP hS hL)
theorem g_i2c (F : FX X g cc nL own rf rl) {x v : Int32} (hd : decode cc pc = .ok (.i2c, 1)) (hv : (x.toUInt32 % 65536).toInt32 = v) (k : G X g nL M (pc + 1) lv (.int v :: st)) : G X g nL M pc lv (.int x :: st) := by
  obtain ⟨p, l, e, R, s, m, args, below, meth, c, cells, slots, Q⟩ := X
  obtain ⟨⟨hx, hb, hml, hown, hts⟩, hW, hrf, hrl, hcl, hsl, hgb⟩ := F
  intro H locs ls hP hS hL
  exact lv_i2c hx hb hd hv (k H locs ls hP hS hL)
theorem g_i2l (F : FX X g cc nL own rf rl) {x : Int32} {v : Int64} (hd : decode cc pc = .ok (.i2l, 1)) (hv : x.toInt64 = v) (k : G X g nL M (pc + 1) lv (.long v :: st)) : G X g nL M pc lv (.int x :: st) := by
  obtain ⟨p, l, e, R, s, m, args, below, meth, c, cells, slots, Q⟩ := X
  obtain ⟨⟨hx, hb, hml, hown, hts⟩, hW, hrf, hrl, hcl, hsl, hgb⟩ := F
  intro H locs ls hP hS hL
  exact lv_i2l hx hb hd hv (k H locs ls hP hS hL)
theorem g_lshl (F : FX X g cc nL own rf rl) {x v : Int64} {y : Int32} (hd : decode cc pc = .ok (.lshl, 1)) (hv : x <<< (y.toInt64 &&& 63) = v) (k : G X g nL M (pc + 1) lv (.long v :: st)) : G X g nL M pc lv (.int y :: .long x :: st) := by
  obtain ⟨p, l, e, R, s, m, args, below, meth, c, cells, slots, Q⟩ := X
  obtain ⟨⟨hx, hb, hml, hown, hts⟩, hW, hrf, hrl, hcl, hsl, hgb⟩ := F
  intro H locs ls hP hS hL
  exact lv_lshl hx hb hd hv (k H locs ls hP hS hL)
theorem g_lor (F : FX X g cc nL own rf rl) {x y : Int64} (hd : decode cc pc = .ok (.lor, 1)) (k : G X g nL M (pc + 1) lv (.long (x ||| y) :: st)) : G X g nL M pc lv (.long y :: .long x :: st) := by
  obtain ⟨p, l, e, R, s, m, args, below, meth, c, cells, slots, Q⟩ := X
  obtain ⟨⟨hx, hb, hml, hown, hts⟩, hW, hrf, hrl, hcl, hsl, hgb⟩ := F
  intro H locs ls hP hS hL
  exact lv_lor hx hb hd (k H locs ls hP hS hL)
theorem g_lcmp (F : FX X g cc nL own rf rl) {x y : Int64} (hd : decode cc pc = .ok (.lcmp, 1)) (k : G X g nL M (pc + 1) lv (.int (lg_cmp x y) :: st)) : G X g nL M pc lv (.long y :: .long x :: st) := by
  obtain ⟨p, l, e, R, s, m, args, below, meth, c, cells, slots, Q⟩ := X
  obtain ⟨⟨hx, hb, hml, hown, hts⟩, hW, hrf, hrl, hcl, hsl, hgb⟩ := F
  intro H locs ls hP hS hL
  exact W.lcmp hx hb hd (k H locs ls hP hS hL)
theorem g_dadd (F : FX X g cc nL own rf rl) {x y : UInt64} (hne : vf_n64 (FP.dadd x y)) (hd : decode cc pc = .ok (.dadd, 1)) (k : G X g nL M (pc + 1) lv (.double (FP.dadd x y) :: st)) : G X g nL M pc lv (.double y :: .double x :: st) := by
  obtain ⟨p, l, e, R, s, m, args, below, meth, c, cells, slots, Q⟩ := X
  obtain ⟨⟨hx, hb, hml, hown, hts⟩, hW, hrf, hrl, hcl, hsl, hgb⟩ := F
  intro H locs ls hP hS hL
  exact lv_dadd hx hb hd hne (k H locs ls hP hS hL)
theorem g_dsub (F : FX X g cc nL own rf rl) {x y : UInt64} (hne : vf_n64 (FP.dsub x y)) (hd : decode cc pc = .ok (.dsub, 1)) (k : G X g nL M (pc + 1) lv (.double (FP.dsub x y) :: st)) : G X g nL M pc lv (.double y :: .double x :: st) := by
  obtain ⟨p, l, e, R, s, m, args, below, meth, c, cells, slots, Q⟩ := X
  obtain ⟨⟨hx, hb, hml, hown, hts⟩, hW, hrf, hrl, hcl, hsl, hgb⟩ := F
  intro H locs ls hP hS hL
  exact lv_dsub hx hb hd hne (k H locs ls hP hS hL)
theorem g_dmul (F : FX X g cc nL own rf rl) {x y : UInt64} (hne : vf_n64 (FP.dmul x y)) (hd : decode cc pc = .ok (.dmul, 1)) (k : G X g nL M (pc + 1) lv (.double (FP.dmul x y) :: st)) : G X g nL M pc lv (.double y :: .double x :: st) := by
  obtain ⟨p, l, e, R, s, m, args, below, meth, c, cells, slots, Q⟩ := X
  obtain ⟨⟨hx, hb, hml, hown, hts⟩, hW, hrf, hrl, hcl, hsl, hgb⟩ := F
  intro H locs ls hP hS hL
  exact lv_dmul hx hb hd hne (k H locs ls hP hS hL)
theorem g_ddiv (F : FX X g cc nL own rf rl) {x y : UInt64} (hne : vf_n64 (FP.ddiv x y)) (hd : decode cc pc = .ok (.ddiv, 1)) (k : G X g nL M (pc + 1) lv (.double (FP.ddiv x y) :: st)) : G X g nL M pc lv (.double y :: .double x :: st) := by
  obtain ⟨p, l, e, R, s, m, args, below, meth, c, cells, slots, Q⟩ := X
  obtain ⟨⟨hx, hb, hml, hown, hts⟩, hW, hrf, hrl, hcl, hsl, hgb⟩ := F
  intro H locs ls hP hS hL
  exact lv_ddiv hx hb hd hne (k H locs ls hP hS hL)
theorem g_dneg (F : FX X g cc nL own rf rl) {x : UInt64} (hd : decode cc pc = .ok (.dneg, 1)) (k : G X g nL M (pc + 1) lv (.double (FP.dneg x) :: st)) : G X g nL M pc lv (.double x :: st) := by
  obtain ⟨p, l, e, R, s, m, args, below, meth, c, cells, slots, Q⟩ := X
  obtain ⟨⟨hx, hb, hml, hown, hts⟩, hW, hrf, hrl, hcl, hsl, hgb⟩ := F
  intro H locs ls hP hS hL
  exact lv_dneg hx hb hd (k H locs ls hP hS hL)
theorem g_dcmp (F : FX X g cc nL own rf rl) {x y : UInt64} {op : CmpOp} (hd : decode cc pc = .ok (.dcmp op, 1)) (k : G X g nL M (pc + 1) lv (.int (Op.cmpValue (FP.dcmp x y) op) :: st)) : G X g nL M pc lv (.double y :: .double x :: st) := by
  obtain ⟨p, l, e, R, s, m, args, below, meth, c, cells, slots, Q⟩ := X
  obtain ⟨⟨hx, hb, hml, hown, hts⟩, hW, hrf, hrl, hcl, hsl, hgb⟩ := F
  intro H locs ls hP hS hL
  exact lv_dcmp hx hb hd (k H locs ls hP hS hL)
theorem g_i2d (F : FX X g cc nL own rf rl) {x : Int32} (hd : decode cc pc = .ok (.i2d, 1)) (k : G X g nL M (pc + 1) lv (.double (FP.i2d x) :: st)) : G X g nL M pc lv (.int x :: st) := by
  obtain ⟨p, l, e, R, s, m, args, below, meth, c, cells, slots, Q⟩ := X
  obtain ⟨⟨hx, hb, hml, hown, hts⟩, hW, hrf, hrl, hcl, hsl, hgb⟩ := F
  intro H locs ls hP hS hL
  exact lv_i2d hx hb hd (k H locs ls hP hS hL)
theorem g_d2l (F : FX X g cc nL own rf rl) {x : UInt64} (hd : decode cc pc = .ok (.d2l, 1)) (k : G X g nL M (pc + 1) lv (.long (FP.d2l x) :: st)) : G X g nL M pc lv (.double x :: st) := by
  obtain ⟨p, l, e, R, s, m, args, below, meth, c, cells, slots, Q⟩ := X
  obtain ⟨⟨hx, hb, hml, hown, hts⟩, hW, hrf, hrl, hcl, hsl, hgb⟩ := F
  intro H locs ls hP hS hL
  exact lv_d2l hx hb hd (k H locs ls hP hS hL)
theorem g_dup (F : FX X g cc nL own rf rl) {v : Value} (hd : decode cc pc = .ok (.dup, 1)) (hv : v.category = 1) (k : G X g nL M (pc + 1) lv (v :: v :: st)) : G X g nL M pc lv (v :: st) := by
  obtain ⟨p, l, e, R, s, m, args, below, meth, c, cells, slots, Q⟩ := X
  obtain ⟨⟨hx, hb, hml, hown, hts⟩, hW, hrf, hrl, hcl, hsl, hgb⟩ := F
  intro H locs ls hP hS hL
  exact lv_dup hx hb hd hv (k H locs ls hP hS hL)
theorem g_pop (F : FX X g cc nL own rf rl) {v : Value} (hd : decode cc pc = .ok (.pop, 1)) (hv : v.category = 1) (k : G X g nL M (pc + 1) lv st) : G X g nL M pc lv (v :: st) := by
  obtain ⟨p, l, e, R, s, m, args, below, meth, c, cells, slots, Q⟩ := X
  obtain ⟨⟨hx, hb, hml, hown, hts⟩, hW, hrf, hrl, hcl, hsl, hgb⟩ := F
  intro H locs ls hP hS hL
  exact lv_pop hx hb hd hv (k H locs ls hP hS hL)
theorem g_dup2 (F : FX X g cc nL own rf rl) {v w : Value} (hd : decode cc pc = .ok (.dup2, 1)) (hv : v.category = 1) (hw : w.category = 1) (k : G X g nL M (pc + 1) lv (v :: w :: v :: w :: st)) : G X g nL M pc lv (v :: w :: st) := by
  obtain ⟨p, l, e, R, s, m, args, below, meth, c, cells, slots, Q⟩ := X
  obtain ⟨⟨hx, hb, hml, hown, hts⟩, hW, hrf, hrl, hcl, hsl, hgb⟩ := F
  intro H locs ls hP hS hL
  exact lv_dup2_11 hx hb hd hv hw (k H locs ls hP hS hL)
theorem g_goto (F : FX X g cc nL own rf rl) {off : Int} {tgt : Nat} (hd : decode cc pc = .ok (.goto off, 3)) (ht : (pc : Int) + off = (tgt : Int)) (k : G X g nL M tgt lv st) : G X g nL M pc lv st := by
  obtain ⟨p, l, e, R, s, m, args, below, meth, c, cells, slots, Q⟩ := X
  obtain ⟨⟨hx, hb, hml, hown, hts⟩, hW, hrf, hrl, hcl, hsl, hgb⟩ := F
  intro H locs ls hP hS hL
  exact lv_goto hx hb hd ht (k H locs ls hP hS hL)
theorem g_if_eq (F : FX X g cc nL own rf rl) {x : Int32} {off : Int} {tgt : Nat} (hd : decode cc pc = .ok (.ifCond .eq off, 3)) (ht : (pc : Int) + off = (tgt : Int)) (kt : x = 0 → G X g nL M tgt lv st) (kf : ¬ x = 0 → G X g nL M (pc + 3) lv st) : G X g nL M pc lv (.int x :: st) := by
  obtain ⟨p, l, e, R, s, m, args, below, meth, c, cells, slots, Q⟩ := X
  obtain ⟨⟨hx, hb, hml, hown, hts⟩, hW, hrf, hrl, hcl, hsl, hgb⟩ := F
  intro H locs ls hP hS hL
  exact lv_if_eq hx hb hd ht (fun q => kt q H locs ls hP hS hL) (fun q => kf q H locs ls hP hS hL)
theorem g_icmp_eq (F : FX X g cc nL own rf rl) {x y : Int32} {off : Int} {tgt : Nat} (hd : decode cc pc = .ok (.if_icmp .eq off, 3)) (ht : (pc : Int) + off = (tgt : Int)) (kt : x = y → G X g nL M tgt lv st) (kf : ¬ x = y → G X g nL M (pc + 3) lv st) : G X g nL M pc lv (.int y :: .int x :: st) := by
  obtain ⟨p, l, e, R, s, m, args, below, meth, c, cells, slots, Q⟩ := X
  obtain ⟨⟨hx, hb, hml, hown, hts⟩, hW, hrf, hrl, hcl, hsl, hgb⟩ := F
  intro H locs ls hP hS hL
  exact lv_icmp_eq hx hb hd ht (fun q => kt q H locs ls hP hS hL) (fun q => kf q H locs ls hP hS hL)
theorem g_if_ne (F : FX X g cc nL own rf rl) {x : Int32} {off : Int} {tgt : Nat} (hd : decode cc pc = .ok (.ifCond .ne off, 3)) (ht : (pc : Int) + off = (tgt : Int)) (kt : ¬ x = 0 → G X g nL M tgt lv st) (kf : x = 0 → G X g nL M (pc + 3) lv st) : G X g nL M pc lv (.int x :: st) := by
  obtain ⟨p, l, e, R, s, m, args, below, meth, c, cells, slots, Q⟩ := X
  obtain ⟨⟨hx, hb, hml, hown, hts⟩, hW, hrf, hrl, hcl, hsl, hgb⟩ := F
  intro H locs ls hP hS hL
  exact lv_if_ne hx hb hd ht (fun q => kt q H locs ls hP hS hL) (fun q => kf q H locs ls hP hS hL)
theorem g_icmp_ne (F : FX X g cc nL own rf rl) {x y : Int32} {off : Int} {tgt : Nat} (hd : decode cc pc = .ok (.if_icmp .ne off, 3)) (ht : (pc : Int) + off = (tgt : Int)) (kt : ¬ x = y → G X g nL M tgt lv st) (kf : x = y → G X g nL M (pc + 3) lv st) : G X g nL M pc lv (.int y :: .int x :: st) := by
  obtain ⟨p, l, e, R, s, m, args, below, meth, c, cells, slots, Q⟩ := X
  obtain ⟨⟨hx, hb, hml, hown, hts⟩, hW, hrf, hrl, hcl, hsl, hgb⟩ := F
  intro H locs ls hP hS hL
  exact lv_icmp_ne hx hb hd ht (fun q => kt q H locs ls hP hS hL) (fun q => kf q H locs ls hP hS hL)
theorem g_if_lt (F : FX X g cc nL own rf rl) {x : Int32} {off : Int} {tgt : Nat} (hd : decode cc pc = .ok (.ifCond .lt off, 3)) (ht : (pc : Int) + off = (tgt : Int)) (kt : x < 0 → G X g nL M tgt lv st) (kf : ¬ x < 0 → G X g nL M (pc + 3) lv st) : G X g nL M pc lv (.int x :: st) := by
  obtain ⟨p, l, e, R, s, m, args, below, meth, c, cells, slots, Q⟩ := X
  obtain ⟨⟨hx, hb, hml, hown, hts⟩, hW, hrf, hrl, hcl, hsl, hgb⟩ := F
  intro H locs ls hP hS hL
  exact lv_if_lt hx hb hd ht (fun q => kt q H locs ls hP hS hL) (fun q => kf q H locs ls hP hS hL)
theorem g_icmp_lt (F : FX X g cc nL own rf rl) {x y : Int32} {off : Int} {tgt : Nat} (hd : decode cc pc = .ok (.if_icmp .lt off, 3)) (ht : (pc : Int) + off = (tgt : Int)) (kt : x < y → G X g nL M tgt lv st) (kf : ¬ x < y → G X g nL M (pc + 3) lv st) : G X g nL M pc lv (.int y :: .int x :: st) := by
  obtain ⟨p, l, e, R, s, m, args, below, meth, c, cells, slots, Q⟩ := X
  obtain ⟨⟨hx, hb, hml, hown, hts⟩, hW, hrf, hrl, hcl, hsl, hgb⟩ := F
  intro H locs ls hP hS hL
  exact lv_icmp_lt hx hb hd ht (fun q => kt q H locs ls hP hS hL) (fun q => kf q H locs ls hP hS hL)
theorem g_if_ge (F : FX X g cc nL own rf rl) {x : Int32} {off : Int} {tgt : Nat} (hd : decode cc pc = .ok (.ifCond .ge off, 3)) (ht : (pc : Int) + off = (tgt : Int)) (kt : 0 ≤ x → G X g nL M tgt lv st) (kf : ¬ 0 ≤ x → G X g nL M (pc + 3) lv st) : G X g nL M pc lv (.int x :: st) := by
  obtain ⟨p, l, e, R, s, m, args, below, meth, c, cells, slots, Q⟩ := X
  obtain ⟨⟨hx, hb, hml, hown, hts⟩, hW, hrf, hrl, hcl, hsl, hgb⟩ := F
  intro H locs ls hP hS hL
  exact lv_if_ge hx hb hd ht (fun q => kt q H locs ls hP hS hL) (fun q => kf q H locs ls hP hS hL)
theorem g_icmp_ge (F : FX X g cc nL own rf rl) {x y : Int32} {off : Int} {tgt : Nat} (hd : decode cc pc = .ok (.if_icmp .ge off, 3)) (ht : (pc : Int) + off = (tgt : Int)) (kt : y ≤ x → G X g nL M tgt lv st) (kf : ¬ y ≤ x → G X g nL M (pc + 3) lv st) : G X g nL M pc lv (.int y :: .int x :: st) := by
  obtain ⟨p, l, e, R, s, m, args, below, meth, c, cells, slots, Q⟩ := X
  obtain ⟨⟨hx, hb, hml, hown, hts⟩, hW, hrf, hrl, hcl, hsl, hgb⟩ := F
  intro H locs ls hP hS hL
  exact lv_icmp_ge hx hb hd ht (fun q => kt q H locs ls hP hS hL) (fun q => kf q H locs ls hP hS hL)
theorem g_if_gt (F : FX X g cc nL own rf rl) {x : Int32} {off : Int} {tgt : Nat} (hd : decode cc pc = .ok (.ifCond .gt off, 3)) (ht : (pc : Int) + off = (tgt : Int)) (kt : 0 < x → G X g nL M tgt lv st) (kf : ¬ 0 < x → G X g nL M (pc + 3) lv st) : G X g nL M pc lv (.int x :: st) := by
  obtain ⟨p, l, e, R, s, m, args, below, meth, c, cells, slots, Q⟩ := X
  obtain ⟨⟨hx, hb, hml, hown, hts⟩, hW, hrf, hrl, hcl, hsl, hgb⟩ := F
  intro H locs ls hP hS hL
  exact lv_if_gt hx hb hd ht (fun q => kt q H locs ls hP hS hL) (fun q => kf q H locs ls hP hS hL)
theorem g_icmp_gt (F : FX X g cc nL own rf rl) {x y : Int32} {off : Int} {tgt : Nat} (hd : decode cc pc = .ok (.if_icmp .gt off, 3)) (ht : (pc : Int) + off = (tgt : Int)) (kt : y < x → G X g nL M tgt lv st) (kf : ¬ y < x → G X g nL M (pc + 3) lv st) : G X g nL M pc lv (.int y :: .int x :: st) := by
  obtain ⟨p, l, e, R, s, m, args, below, meth, c, cells, slots, Q⟩ := X
  obtain ⟨⟨hx, hb, hml, hown, hts⟩, hW, hrf, hrl, hcl, hsl, hgb⟩ := F
  intro H locs ls hP hS hL
  exact lv_icmp_gt hx hb hd ht (fun q => kt q H locs ls hP hS hL) (fun q => kf q H locs ls hP hS hL)
theorem g_if_le (F : FX X g cc nL own rf rl) {x : Int32} {off : Int} {tgt : Nat} (hd : decode cc pc = .ok (.ifCond .le off, 3)) (ht : (pc : Int) + off = (tgt : Int)) (kt : x ≤ 0 → G X g nL M tgt lv st) (kf : ¬ x ≤ 0 → G X g nL M (pc + 3) lv st) : G X g nL M pc lv (.int x :: st) := by
  obtain ⟨p, l, e, R, s, m, args, below, meth, c, cells, slots, Q⟩ := X
  obtain ⟨⟨hx, hb, hml, hown, hts⟩, hW, hrf, hrl, hcl, hsl, hgb⟩ := F
  intro H locs ls hP hS hL
  exact lv_if_le hx hb hd ht (fun q => kt q H locs ls hP hS hL) (fun q => kf q H locs ls hP hS hL)
theorem g_icmp_le (F : FX X g cc nL own rf rl) {x y : Int32} {off : Int} {tgt : Nat} (hd : decode cc pc = .ok (.if_icmp .le off, 3)) (ht : (pc : Int) + off = (tgt : Int)) (kt : x ≤ y → G X g nL M tgt lv st) (kf : ¬ x ≤ y → G X g nL M (pc + 3) lv st) : G X g nL M pc lv (.int y :: .int x :: st) := by
  obtain ⟨p, l, e, R, s, m, args, below, meth, c, cells, slots, Q⟩ := X
  obtain ⟨⟨hx, hb, hml, hown, hts⟩, hW, hrf, hrl, hcl, hsl, hgb⟩ := F
  intro H locs ls hP hS hL
  exact lv_icmp_le hx hb hd ht (fun q => kt q H locs ls hP hS hL) (fun q => kf q H locs ls hP hS hL)
theorem g_ifnonnull (F : FX X g cc nL own rf rl) {x : Nat} {off : Int} {tgt : Nat} (hd : decode cc pc = .ok (.ifnonnull off, 3)) (ht : (pc : Int) + off = (tgt : Int)) (k : G X g nL M tgt lv st) : G X g nL M pc lv (.ref x :: st) := by
  obtain ⟨p, l, e, R, s, m, args, below, meth, c, cells, slots, Q⟩ := X
  obtain ⟨⟨hx, hb, hml, hown, hts⟩, hW, hrf, hrl, hcl, hsl, hgb⟩ := F
  intro H locs ls hP hS hL
  exact lv_ifnonnull hx hb hd ht (k H locs ls hP hS hL)
theorem g_ifnull (F : FX X g cc nL own rf rl) {x : Nat} {off : Int} (hd : decode cc pc = .ok (.ifnull off, 3)) (k : G X g nL M (pc + 3) lv st) : G X g nL M pc lv (.ref x :: st) := by
  obtain ⟨p, l, e, R, s, m, args, below, meth, c, cells, slots, Q⟩ := X
  obtain ⟨⟨hx, hb, hml, hown, hts⟩, hW, hrf, hrl, hcl, hsl, hgb⟩ := F
  intro H locs ls hP hS hL
  exact lv_ifnull hx hb hd (k H locs ls hP hS hL)
theorem g_ifnullN (F : FX X g cc nL own rf rl) {off : Int} {tgt : Nat} (hd : decode cc pc = .ok (.ifnull off, 3)) (ht : (pc : Int) + off = (tgt : Int)) (k : G X g nL M tgt lv st) : G X g nL M pc lv (.null :: st) := by
  obtain ⟨p, l, e, R, s, m, args, below, meth, c, cells, slots, Q⟩ := X
  obtain ⟨⟨hx, hb, hml, hown, hts⟩, hW, hrf, hrl, hcl, hsl, hgb⟩ := F
  intro H locs ls hP hS hL
  exact lv_ifnullN hx hb hd ht (k H locs ls hP hS hL)
theorem g_ifnonnullN (F : FX X g cc nL own rf rl) {off : Int} (hd : decode cc pc = .ok (.ifnonnull off, 3)) (k : G X g nL M (pc + 3) lv st) : G X g nL M pc lv (.null :: st) := by
  obtain ⟨p, l, e, R, s, m, args, below, meth, c, cells, slots, Q⟩ := X
  obtain ⟨⟨hx, hb, hml, hown, hts⟩, hW, hrf, hrl, hcl, hsl, hgb⟩ := F
  intro H locs ls hP hS hL
  exact lv_ifnonnullN hx hb hd (k H locs ls hP hS hL)
theorem g_tableOut (F : FX X g cc nL own rf rl) {dflt lo hi : Int} {offs : Array Int} {len : Nat} {x : Int32} {tgt : Nat} (hd : decode cc pc = .ok (.tableswitch dflt lo hi offs, len)) (h : x.toInt < lo ∨ hi < x.toInt) (ht : (pc : Int) + dflt = (tgt : Int)) (k : G X g nL M tgt lv st) : G X g nL M pc lv (.int x :: st) := by
  obtain ⟨p, l, e, R, s, m, args, below, meth, c, cells, slots, Q⟩ := X
  obtain ⟨⟨hx, hb, hml, hown, hts⟩, hW, hrf, hrl, hcl, hsl, hgb⟩ := F
  intro H locs ls hP hS hL
  exact lv_tableOut hx hb hd h ht (k H locs ls hP hS hL)
theorem g_tableIn (F : FX X g cc nL own rf rl) {dflt lo hi : Int} {offs : Array Int} {len : Nat} {x : Int32} {off : Int} {tgt : Nat} (hd : decode cc pc = .ok (.tableswitch dflt lo hi offs, len)) (h1 : ¬ x.toInt < lo) (h2 : ¬ hi < x.toInt) (ho : offs[(x.toInt - lo).toNat]? = some off) (ht : (pc : Int) + off = (tgt : Int)) (k : G X g nL M tgt lv st) : G X g nL M pc lv (.int x :: st) := by
  obtain ⟨p, l, e, R, s, m, args, below, meth, c, cells, slots, Q⟩ := X
  obtain ⟨⟨hx, hb, hml, hown, hts⟩, hW, hrf, hrl, hcl, hsl, hgb⟩ := F
  intro H locs ls hP hS hL
  exact lv_tableIn hx hb hd h1 h2 ho ht (k H locs ls hP hS hL)
theorem g_lookup (F : FX X g cc nL own rf rl) {dflt : Int} {ps : Array (Int × Int)} {len : Nat} {x : Int32} {off : Int} {tgt : Nat} (hd : decode cc pc = .ok (.lookupswitch dflt ps, len)) (hp : (ps.toList.zip (ps.toList.drop 1)).all (fun (a, next) => a.1 < next.1) = true) (ho : Op.lookupswitch.offset ps.toList dflt x.toInt = off) (ht : (pc : Int) + off = (tgt : Int)) (k : G X g nL M tgt lv st) : G X g nL M pc lv (.int x :: st) := by
  obtain ⟨p, l, e, R, s, m, args, below, meth, c, cells, slots, Q⟩ := X
  obtain ⟨⟨hx, hb, hml, hown, hts⟩, hW, hrf, hrl, hcl, hsl, hgb⟩ := F
  intro H locs ls hP hS hL
  exact lv_lookup hx hb hd hp ho ht (k H locs ls hP hS hL)
end GROWS
/-! fields -/
def FL (own : String) (idx ci j : Nat) (fin : Bool) (ty : FieldType) : Prop := ∃ (C : String) (T : u_T) (N : Nat) (ty0 : Nat → FieldType), vwCl[ci]? = some (C, T, N) ∧ ci < 9 ∧ (∀ w ∈ u_ws C T N, w ∈ lw_ws) ∧ j < N ∧ (∀ k, k < N → parseFieldDescriptor (T k).2.2.1 = some (ty0 k)) ∧ (∀ a, a < N → ∀ b, b < N → a ≠ b → (T a).2.1 ≠ (T b).2.1) ∧ (Cond.fieldLink own idx (T j).1 (T j).2.1 (T j).2.2.1 ∈ lw_ws ∨ Cond.fieldLinkNest own idx (T j).1 (T j).2.1 (T j).2.2.1 "RenewalClocks" ∈ nestW) ∧ (T j).2.2.2 = fin ∧ ty0 j = ty
section GMEM
variable {X : XT} {g : Gm} {cc : ByteArray} {nL : Nat} {own : String} {rf rl : Nat} {M : Mem} {pc : Nat} {lv : List (Option Value)} {st : List Value}
theorem g_geti (F : FX X g cc nL own rf rl) {k ci j idx : Nat} {fin : Bool} {ty : FieldType} (w : FL own idx ci j fin ty) (hk : kd k = ci) (ht : (tpl ci)[j]? = some none) (hd : decode cc pc = .ok (.getfield idx, 3)) (kk : G X g nL M (pc + 3) lv (.int (M k j) :: st)) : G X g nL M pc lv (.ref (ad g k) :: st) := by
  obtain ⟨p, l, e, R, s, m, args, below, meth, c, cells, slots, Q⟩ := X
  obtain ⟨⟨hx, hb, hml, hown, hts⟩, hW, hrf, hrl, hcl, hsl, hgb⟩ := F
  intro H locs ls hP hS hL
  obtain ⟨C, T, N, ty0, hc, h9, hin, hj, hty, hnm, hl, hf, ht0⟩ := w
  have hkk := kd_lt hk (by omega)
  have he : (wWs g M)[k]? = some (ad g k, .inr (ci, wF g M k 0 (tpl ci))) := by rw [wWs_at g M hkk, wE_obj g M hk h9]
  have hv : (wF g M k 0 (tpl ci))[j]? = some (.int (M k j)) := by
    have h := wF_at g M k (tpl ci) 0 j ht
    simpa [rv] using h
  rcases hl with hl | hl
  · exact va_get hx hb hts hin hown hW.2.2.1 hP k he hc j hj (hts _ hl) (fun _ h => h) hv hd (kk H locs ls hP hS hL)
  · exact va_getN hx hb hts hin hown hW.2.2.1 hP k he hc j hj (va_Nw.use rfl (hW.2.2.2 _ hl)) (fun _ h => h) hv hd (kk H locs ls hP hS hL)
theorem g_getr (F : FX X g cc nL own rf rl) {k ci j idx : Nat} {fin : Bool} {ty : FieldType} {f : Nat → Nat} (w : FL own idx ci j fin ty) (hk : kd k = ci) (ht : (tpl ci)[j]? = some (some f)) (hd : decode cc pc = .ok (.getfield idx, 3)) (kk : G X g nL M (pc + 3) lv (.ref (ad g (f k)) :: st)) : G X g nL M pc lv (.ref (ad g k) :: st) := by
  obtain ⟨p, l, e, R, s, m, args, below, meth, c, cells, slots, Q⟩ := X
  obtain ⟨⟨hx, hb, hml, hown, hts⟩, hW, hrf, hrl, hcl, hsl, hgb⟩ := F
  intro H locs ls hP hS hL
  obtain ⟨C, T, N, ty0, hc, h9, hin, hj, hty, hnm, hl, hf, ht0⟩ := w
  have hkk := kd_lt hk (by omega)
  have he : (wWs g M)[k]? = some (ad g k, .inr (ci, wF g M k 0 (tpl ci))) := by rw [wWs_at g M hkk, wE_obj g M hk h9]
  have hv : (wF g M k 0 (tpl ci))[j]? = some (.ref (ad g (f k))) := by
    have h := wF_at g M k (tpl ci) 0 j ht
    simpa [rv] using h
  rcases hl with hl | hl
  · exact va_get hx hb hts hin hown hW.2.2.1 hP k he hc j hj (hts _ hl) (fun _ h => h) hv hd (kk H locs ls hP hS hL)
  · exact va_getN hx hb hts hin hown hW.2.2.1 hP k he hc j hj (va_Nw.use rfl (hW.2.2.2 _ hl)) (fun _ h => h) hv hd (kk H locs ls hP hS hL)
theorem g_puti (F : FX X g cc nL own rf rl) {k ci j idx : Nat} {ty : FieldType} {x : Int32} (w : FL own idx ci j false ty) (hn : narrow ty (.int x) = .int x) (hfit : fits ty (.int x) = true) (hk : kd k = ci) (ht : (tpl ci)[j]? = some none) (hd : decode cc pc = .ok (.putfield idx, 3)) (kk : G X g nL (upd2 M k j x) (pc + 3) lv st) : G X g nL M pc lv (.int x :: .ref (ad g k) :: st) := by
  obtain ⟨p, l, e, R, s, m, args, below, meth, c, cells, slots, Q⟩ := X
  obtain ⟨⟨hx, hb, hml, hown, hts⟩, hW, hrf, hrl, hcl, hsl, hgb⟩ := F
  intro H locs ls hP hS hL
  obtain ⟨C, T, N, ty0, hc, h9, hin, hj, hty, hnm, hl, hf, ht0⟩ := w
  have hkk := kd_lt hk (by omega)
  have he : (wWs g M)[k]? = some (ad g k, .inr (ci, wF g M k 0 (tpl ci))) := by rw [wWs_at g M hkk, wE_obj g M hk h9]
  have hlen : j < (wF g M k 0 (tpl ci)).length := by
    rw [wF_len]
    exact (List.getElem?_eq_some_iff.mp ht).1
  have hset : (wWs g M).set k (ad g k, .inr (ci, (wF g M k 0 (tpl ci)).set j (.int x))) = wWs g (upd2 M k j x) := by
    refine wWs_set g hkk ?_ (fun a ha => wE_row g (upd2_ne M j x ha))
    rw [wE_obj g _ hk h9, wF_set g M k j x (tpl ci) 0 j (Nat.zero_add _) ht]
  have hdty : parseFieldDescriptor (T j).2.2.1 = some ty := by rw [hty j hj, ht0]
  rcases hl with hl | hl
  · refine va_put hx hb hts hin ty0 hty hnm hown hW.2.2.1 hP (wWs_D hW M) hS k he hc j hj (hts _ hl) (fun _ h => h) hf hdty hn hfit hlen hd (fun H1 locs1 hP1 hD1 hS1 => ?_)
    rw [hset] at hP1
    exact kk H1 locs1 ls hP1 hS1 hL
  · refine va_putN hx hb hts hin ty0 hty hnm hown hW.2.2.1 hP (wWs_D hW M) hS k he hc j hj (va_Nw.use rfl (hW.2.2.2 _ hl)) (fun _ h => h) hf hdty hn hfit hlen hd (fun H1 locs1 hP1 hD1 hS1 => ?_)
    rw [hset] at hP1
    exact kk H1 locs1 ls hP1 hS1 hL
/-! arrays -/
theorem iarr_le {c n : Nat} (h : iarr c = some n) : n ≤ 440 := by
  unfold iarr at h
  split at h <;> simp at h <;> omega
theorem g_iald (F : FX X g cc nL own rf rl) {k c n q : Nat} {i : Int32} (hk : kd k = c) (hn : iarr c = some n) (hi : i = nI q) (hq : q < n) (hd : decode cc pc = .ok (.iaload, 1)) (kk : G X g nL M (pc + 1) lv (.int (M k q) :: st)) : G X g nL M pc lv (.int i :: .ref (ad g k) :: st) := by
  obtain ⟨p, l, e, R, s, m, args, below, meth, c0, cells, slots, Q⟩ := X
  obtain ⟨⟨hx, hb, hml, hown, hts⟩, hW, hrf, hrl, hcl, hsl, hgb⟩ := F
  intro H locs ls hP hS hL
  have hkk : k < 228 := kd_lt hk (by unfold iarr at hn; split at hn <;> simp_all)
  have hn4 := iarr_le hn
  subst hi
  refine va_iald hx hb hW.2.2.1 hP k 0 (by rw [wWs_at g M hkk, wE_iarr g M hk hn]) rfl (vp_in_nI hq (by omega)) hd ?_
  rw [nI_clamp (by omega)]
  exact kk H locs ls hP hS hL
theorem g_iast (F : FX X g cc nL own rf rl) {k c n q : Nat} {i x : Int32} (hk : kd k = c) (hn : iarr c = some n) (hi : i = nI q) (hq : q < n) (hd : decode cc pc = .ok (.iastore, 1)) (kk : G X g nL (upd2 M k q x) (pc + 1) lv st) : G X g nL M pc lv (.int x :: .int i :: .ref (ad g k) :: st) := by
  obtain ⟨p, l, e, R, s, m, args, below, meth, c0, cells, slots, Q⟩ := X
  obtain ⟨⟨hx, hb, hml, hown, hts⟩, hW, hrf, hrl, hcl, hsl, hgb⟩ := F
  intro H locs ls hP hS hL
  have hkk : k < 228 := kd_lt hk (by unfold iarr at hn; split at hn <;> simp_all)
  have hn4 := iarr_le hn
  subst hi
  refine va_iast hx hb hW.2.2.1 hP (wWs_D hW M) hS k 0 (by rw [wWs_at g M hkk, wE_iarr g M hk hn]) rfl (vp_in_nI hq (by omega)) hd (fun H1 locs1 hP1 hD1 hS1 => ?_)
  rw [nI_clamp (by omega)] at hP1
  rw [wWs_set g hkk (M' := upd2 M k q x) (by rw [wE_iarr g _ hk hn, upd2_row]) (fun a ha => wE_row g (upd2_ne M _ x ha))] at hP1
  exact kk H1 locs1 ls hP1 hS1 hL
theorem wE_14 (g : Gm) (M : Mem) {k : Nat} (h : kd k = 14) : wE g M k = .inl (gC g 1, 60, .inl (M k)) := by rw [wE_arr g M h (by decide)]; rfl
theorem g_cald (F : FX X g cc nL own rf rl) {k q : Nat} {i : Int32} (hk : kd k = 14) (hi : i = nI q) (hq : q < 60) (hd : decode cc pc = .ok (.caload, 1)) (kk : G X g nL M (pc + 1) lv (.int (M k q) :: st)) : G X g nL M pc lv (.int i :: .ref (ad g k) :: st) := by
  obtain ⟨p, l, e, R, s, m, args, below, meth, c0, cells, slots, Q⟩ := X
  obtain ⟨⟨hx, hb, hml, hown, hts⟩, hW, hrf, hrl, hcl, hsl, hgb⟩ := F
  intro H locs ls hP hS hL
  subst hi
  refine va_cald hx hb hW.2.2.1 hP k 1 (by rw [wWs_at g M (kd_lt hk (by decide)), wE_14 g M hk]) rfl (vp_in_nI hq (by decide)) hd ?_
  rw [nI_clamp (by omega)]
  exact kk H locs ls hP hS hL
theorem g_cast (F : FX X g cc nL own rf rl) {k q : Nat} {i x : Int32} (hk : kd k = 14) (hi : i = nI q) (hq : q < 60) (hd : decode cc pc = .ok (.castore, 1)) (kk : G X g nL (upd2 M k q (vp_nar .char x)) (pc + 1) lv st) : G X g nL M pc lv (.int x :: .int i :: .ref (ad g k) :: st) := by
  obtain ⟨p, l, e, R, s, m, args, below, meth, c0, cells, slots, Q⟩ := X
  obtain ⟨⟨hx, hb, hml, hown, hts⟩, hW, hrf, hrl, hcl, hsl, hgb⟩ := F
  intro H locs ls hP hS hL
  have hkk : k < 228 := kd_lt hk (by decide)
  subst hi
  refine va_cast hx hb hW.2.2.1 hP (wWs_D hW M) hS k 1 (by rw [wWs_at g M hkk, wE_14 g M hk]) rfl (vp_in_nI hq (by decide)) hd (fun H1 locs1 hP1 hD1 hS1 => ?_)
  rw [nI_clamp (by omega)] at hP1
  rw [wWs_set g hkk (M' := upd2 M k q (vp_nar .char x)) (by rw [wE_14 g _ hk, upd2_row]) (fun a ha => wE_row g (upd2_ne M _ _ ha))] at hP1
  exact kk H1 locs1 ls hP1 hS1 hL

theorem g_alenC (F : FX X g cc nL own rf rl) {k : Nat} {v : Int32} (hk : kd k = 14) (hv : Int32.ofNat 60 = v) (hd : decode cc pc = .ok (.arraylength, 1)) (kk : G X g nL M (pc + 1) lv (.int v :: st)) : G X g nL M pc lv (.ref (ad g k) :: st) := by
  obtain ⟨p, l, e, R, s, m, args, below, meth, c0, cells, slots, Q⟩ := X
  obtain ⟨⟨hx, hb, hml, hown, hts⟩, hW, hrf, hrl, hcl, hsl, hgb⟩ := F
  intro H locs ls hP hS hL
  exact va_alen (x := (wA g M k 14).2) hx hb hW.2.2.1 hP k 1 (by rw [wWs_at g M (kd_lt hk (by decide)), wE_arr g M hk (by decide)]; rfl) rfl hv hd (kk H locs ls hP hS hL)
theorem g_alenK (F : FX X g cc nL own rf rl) {k : Nat} {v : Int32} (hk : kd k = 15) (hv : Int32.ofNat 6 = v) (hd : decode cc pc = .ok (.arraylength, 1)) (kk : G X g nL M (pc + 1) lv (.int v :: st)) : G X g nL M pc lv (.ref (ad g k) :: st) := by
  obtain ⟨p, l, e, R, s, m, args, below, meth, c0, cells, slots, Q⟩ := X
  obtain ⟨⟨hx, hb, hml, hown, hts⟩, hW, hrf, hrl, hcl, hsl, hgb⟩ := F
  intro H locs ls hP hS hL
  exact va_alen (x := (wA g M k 15).2) hx hb hW.2.2.1 hP k 2 (by rw [wWs_at g M (kd_lt hk (by decide)), wE_arr g M hk (by decide)]; rfl) rfl hv hd (kk H locs ls hP hS hL)
theorem g_alenG (F : FX X g cc nL own rf rl) {k : Nat} {v : Int32} (hk : kd k = 16) (hv : Int32.ofNat 4 = v) (hd : decode cc pc = .ok (.arraylength, 1)) (kk : G X g nL M (pc + 1) lv (.int v :: st)) : G X g nL M pc lv (.ref (ad g k) :: st) := by
  obtain ⟨p, l, e, R, s, m, args, below, meth, c0, cells, slots, Q⟩ := X
  obtain ⟨⟨hx, hb, hml, hown, hts⟩, hW, hrf, hrl, hcl, hsl, hgb⟩ := F
  intro H locs ls hP hS hL
  exact va_alen (x := (wA g M k 16).2) hx hb hW.2.2.1 hP k 3 (by rw [wWs_at g M (kd_lt hk (by decide)), wE_arr g M hk (by decide)]; rfl) rfl hv hd (kk H locs ls hP hS hL)
theorem g_alenS (F : FX X g cc nL own rf rl) {k : Nat} {v : Int32} (hk : kd k = 17) (hv : Int32.ofNat 5 = v) (hd : decode cc pc = .ok (.arraylength, 1)) (kk : G X g nL M (pc + 1) lv (.int v :: st)) : G X g nL M pc lv (.ref (ad g k) :: st) := by
  obtain ⟨p, l, e, R, s, m, args, below, meth, c0, cells, slots, Q⟩ := X
  obtain ⟨⟨hx, hb, hml, hown, hts⟩, hW, hrf, hrl, hcl, hsl, hgb⟩ := F
  intro H locs ls hP hS hL
  exact va_alen (x := (wA g M k 17).2) hx hb hW.2.2.1 hP k 4 (by rw [wWs_at g M (kd_lt hk (by decide)), wE_arr g M hk (by decide)]; rfl) rfl hv hd (kk H locs ls hP hS hL)
theorem g_alen (F : FX X g cc nL own rf rl) {k c n : Nat} {v : Int32} (hk : kd k = c) (hn : iarr c = some n) (hv : Int32.ofNat n = v) (hd : decode cc pc = .ok (.arraylength, 1)) (kk : G X g nL M (pc + 1) lv (.int v :: st)) : G X g nL M pc lv (.ref (ad g k) :: st) := by
  obtain ⟨p, l, e, R, s, m, args, below, meth, c0, cells, slots, Q⟩ := X
  obtain ⟨⟨hx, hb, hml, hown, hts⟩, hW, hrf, hrl, hcl, hsl, hgb⟩ := F
  intro H locs ls hP hS hL
  have hkk : k < 228 := kd_lt hk (by unfold iarr at hn; split at hn <;> simp_all)
  exact va_alen (x := (n, .inl (M k))) hx hb hW.2.2.1 hP k 0 (by rw [wWs_at g M hkk, wE_iarr g M hk hn]) rfl hv hd (kk H locs ls hP hS hL)
theorem g_aaldK (F : FX X g cc nL own rf rl) {k q r : Nat} {i : Int32} (hk : kd k = 15) (hi : i = nI q) (hq : q < 6) (hr : k + 2 + 4 * q = r) (hd : decode cc pc = .ok (.aaload, 1)) (kk : G X g nL M (pc + 1) lv (.ref (ad g r) :: st)) : G X g nL M pc lv (.int i :: .ref (ad g k) :: st) := by
  obtain ⟨p, l, e, R, s, m, args, below, meth, c0, cells, slots, Q⟩ := X
  obtain ⟨⟨hx, hb, hml, hown, hts⟩, hW, hrf, hrl, hcl, hsl, hgb⟩ := F
  intro H locs ls hP hS hL
  subst hi
  subst hr
  refine va_aldq (f := fun j => some (ad g (k + 2 + 4 * j))) hx hb hW.2.2.1 hP k 2 (by rw [wWs_at g M (kd_lt hk (by decide)), wE_arr g M hk (by decide)]; rfl) rfl (vp_in_nI hq (by decide)) hd ?_
  rw [nI_clamp (by omega)]
  exact kk H locs ls hP hS hL
theorem g_aaldG (F : FX X g cc nL own rf rl) {k q r : Nat} {i : Int32} (hk : kd k = 16) (hi : i = nI q) (hq : q < 4) (hr : k + 25 + q = r) (hd : decode cc pc = .ok (.aaload, 1)) (kk : G X g nL M (pc + 1) lv (.ref (ad g r) :: st)) : G X g nL M pc lv (.int i :: .ref (ad g k) :: st) := by
  obtain ⟨p, l, e, R, s, m, args, below, meth, c0, cells, slots, Q⟩ := X
  obtain ⟨⟨hx, hb, hml, hown, hts⟩, hW, hrf, hrl, hcl, hsl, hgb⟩ := F
  intro H locs ls hP hS hL
  subst hi
  subst hr
  refine va_aldq (f := fun j => some (ad g (k + 25 + j))) hx hb hW.2.2.1 hP k 3 (by rw [wWs_at g M (kd_lt hk (by decide)), wE_arr g M hk (by decide)]; rfl) rfl (vp_in_nI hq (by decide)) hd ?_
  rw [nI_clamp (by omega)]
  exact kk H locs ls hP hS hL
theorem g_aaldS (F : FX X g cc nL own rf rl) {k q r : Nat} {i : Int32} (hk : kd k = 17) (hi : i = nI q) (hq : q < 5) (hr : 65 + 31 * (M k q).toNatClampNeg = r) (hd : decode cc pc = .ok (.aaload, 1)) (kk : G X g nL M (pc + 1) lv (.ref (ad g r) :: st)) : G X g nL M pc lv (.int i :: .ref (ad g k) :: st) := by
  obtain ⟨p, l, e, R, s, m, args, below, meth, c0, cells, slots, Q⟩ := X
  obtain ⟨⟨hx, hb, hml, hown, hts⟩, hW, hrf, hrl, hcl, hsl, hgb⟩ := F
  intro H locs ls hP hS hL
  subst hi
  subst hr
  refine va_aldq (f := fun j => some (ad g (65 + 31 * (M k j).toNatClampNeg))) hx hb hW.2.2.1 hP k 4 (by rw [wWs_at g M (kd_lt hk (by decide)), wE_arr g M hk (by decide)]; rfl) rfl (vp_in_nI hq (by decide)) hd ?_
  rw [nI_clamp (by omega)]
  exact kk H locs ls hP hS hL
theorem g_aastS (F : FX X g cc nL own rf rl) {k q i0 : Nat} {i : Int32} (hk : kd k = 17) (hi : i = nI i0) (hi5 : i0 < 5) (hq : q < 5) (hd : decode cc pc = .ok (.aastore, 1)) (kk : G X g nL (upd2 M k i0 (nI q)) (pc + 1) lv st) : G X g nL M pc lv (.ref (ad g (65 + 31 * q)) :: .int i :: .ref (ad g k) :: st) := by
  obtain ⟨p, l, e, R, s, m, args, below, meth, c0, cells, slots, Q⟩ := X
  obtain ⟨⟨hx, hb, hml, hown, hts⟩, hW, hrf, hrl, hcl, hsl, hgb⟩ := F
  intro H locs ls hP hS hL
  have hkk : k < 228 := kd_lt hk (by decide)
  have hk3 : kd (65 + 31 * q) = 3 := by
    have : ∀ q, q < 5 → kd (65 + 31 * q) = 3 := by decide
    exact this q hq
  have hv : (wWs g M)[65 + 31 * q]? = some (ad g (65 + 31 * q), .inr (3, wF g M (65 + 31 * q) 0 (tpl 3))) := by rw [wWs_at g M (by omega), wE_obj g M hk3 (by decide)]
  subst hi
  refine va_astq (r := (RX3, TX3, 6)) hx hb hW.2.2.1 hP (wWs_D hW M) hS k 4 (65 + 31 * q) 3 (by rw [wWs_at g M hkk, wE_arr g M hk (by decide)]; rfl) rfl hv rfl (vp_in_nI hi5 (by decide)) hd (fun H1 locs1 hP1 hD1 hS1 => ?_)
  rw [nI_clamp (by omega)] at hP1
  rw [wWs_set g hkk (M' := upd2 M k i0 (nI q)) ?_ (fun a ha => wE_row g (upd2_ne M _ _ ha))] at hP1
  · exact kk H1 locs1 ls hP1 hS1 hL
  · rw [wE_arr g _ hk (by decide)]
    have hfun : (fun j => some (ad g (65 + 31 * (upd2 M k i0 (nI q) k j).toNatClampNeg))) = va_up (fun j => some (ad g (65 + 31 * (M k j).toNatClampNeg))) i0 (some (ad g (65 + 31 * q))) := by
      funext j
      rw [upd2_row]
      unfold upd va_up
      by_cases hj : j = i0
      · rw [if_pos hj, if_pos hj, nI_clamp (by omega)]
      · rw [if_neg hj, if_neg hj]
    exact congrArg (fun f : Nat → Option Nat => (Sum.inl (gC g 4, 5, Sum.inr (Sum.inr (Sum.inr (Sum.inr f)))) : va_E)) hfun
def updr (M : Mem) (k : Nat) (r : Nat → Int32) : Mem := fun a => if a = k then r else M a
theorem g_copy4 (F : FX X g cc nL own rf rl) {k0 k1 idx : Nat} (hk0 : kd k0 = 9) (hk1 : kd k1 = 9) (w : Cond.methodLink own idx arraycopyName ∈ lw_ws ∧ Cond.native arraycopyName ∈ lw_ws ∧ Cond.static arraycopyName ∈ lw_ws ∧ Cond.initialized "java/lang/System" ∈ lw_ws) (hfr : 1 ≤ rf) (hrl2 : (st.map fun v => v.category).sum + (nativeFrameWords "java/lang/System" "arraycopy" 5 + 11) ≤ rl) (hd : decode cc pc = .ok (.invokestatic idx, 3)) (kk : G X g nL (updr M k1 (va_cpy (M k0) (M k1) 0 0 4)) (pc + 3) lv st) : G X g nL M pc lv (.int 4 :: .int 0 :: .ref (ad g k1) :: .int 0 :: .ref (ad g k0) :: st) := by
  obtain ⟨p, l, e, R, s, m, args, below, meth, c0, cells, slots, Q⟩ := X
  obtain ⟨⟨hx, hb, hml, hown, hts⟩, hW, hrf, hrl, hcl, hsl, hgb⟩ := F
  intro H locs ls hP hS hL
  have hkk0 : k0 < 228 := kd_lt hk0 (by decide)
  have hkk1 : k1 < 228 := kd_lt hk1 (by decide)
  refine va_copyi (sp := 0) (dp := 0) (n := 4) hx hb (hml.trans hL.1.symm) hown (hts _ w.1) (hts _ w.2.1) (hts _ w.2.2.1) (hts _ w.2.2.2) hW.2.2.1 hP (wWs_D hW M) hS k0 k1 0 0 (by rw [wWs_at g M hkk0, wE_iarr g M hk0 rfl]) (by rw [wWs_at g M hkk1, wE_iarr g M hk1 rfl]) rfl rfl rfl (by decide) (by decide) (by decide) (by decide) (by decide) (fun _ _ => rfl) (by rw [hrf]; exact hfr) (by rw [hrl]; exact hrl2) hd (fun H1 locs1 hP1 hD1 hS1 => ?_)
  rw [wWs_set g hkk1 (M' := updr M k1 (va_cpy (M k0) (M k1) 0 0 4)) ?_ (fun a ha => wE_row g (by simp [updr, ha]))] at hP1
  · exact kk H1 locs1 ls hP1 hS1 hL
  · rw [wE_iarr g _ hk1 rfl]
    simp [updr]
theorem g_d2raw (F : FX X g cc nL own rf rl) {idx : Nat} {b : UInt64} (w : Cond.methodLink own idx ⟨"java/lang/Double", "doubleToRawLongBits", "(D)J"⟩ ∈ lw_ws ∧ Cond.native ⟨"java/lang/Double", "doubleToRawLongBits", "(D)J"⟩ ∈ lw_ws ∧ Cond.static ⟨"java/lang/Double", "doubleToRawLongBits", "(D)J"⟩ ∈ lw_ws ∧ Cond.initialized "java/lang/Double" ∈ lw_ws) (hfr : 1 ≤ rf) (hrl2 : (st.map fun v => v.category).sum + 15 ≤ rl) (hd : decode cc pc = .ok (.invokestatic idx, 3)) (kk : G X g nL M (pc + 3) lv (.long b.toInt64 :: st)) : G X g nL M pc lv (.double b :: st) := by
  obtain ⟨p, l, e, R, s, m, args, below, meth, c0, cells, slots, Q⟩ := X
  obtain ⟨⟨hx, hb, hml, hown, hts⟩, hW, hrf, hrl, hcl, hsl, hgb⟩ := F
  intro H locs ls hP hS hL
  exact vn_d2l hx hb (hml.trans hL.1.symm) hown (hts _ w.1) (hts _ w.2.1) (hts _ w.2.2.1) (hts _ w.2.2.2) (by rw [hrf]; exact hfr) (by rw [hrl]; exact hrl2) hd (kk H locs ls hP hS hL)
end GMEM
/-! contracts and calls -/
def wsM (y : MethodName) (cy : ByteArray) (nL : Nat) (ret : Option FieldType) : List Cond := .code y cy nL ret :: lw_ws
abbrev qM (g : Gm) (post : Option Value → Mem → Prop) : State → Outcome → State → Prop := fun st o t => (∃ (v : Option Value) (M' : Mem), o = .returned v ∧ post v M' ∧ hM g M' t.heap) ∧ va_F (gA g) st t
/-- THE CONTRACT of a method: from the memory M, with the arguments av, it returns v and leaves M', and post v M' holds -/
def Cn (l : Launch) (y : MethodName) (cy : ByteArray) (nL : Nat) (ret : Option FieldType) (rf rl : Nat) (g : Gm) (av : List Value) (M : Mem) (post : Option Value → Mem → Prop) : Prop :=
  Met l y (wsM y cy nL ret) ({ frames := rf, cells := 0, slots := 0, locals := rl }) (va_Pc av (fun U => wOK g U ∧ hM g M U.heap ∧ gB g ≤ U.heap.size)) (fun _ st o t => qM g post st o t) 0 0 (gA g)
theorem ws_good {ws : List Cond} (h : ∀ w ∈ ws, w ∈ lw_ws) : GoodIn lw_ws ws := fun w hw => ⟨h w hw, good_of_word (List.mem_filter.mp (h w hw)).2⟩
theorem nest_kind : ∀ w ∈ nestW, (match w with | .fieldLinkNest .. => true | .methodLinkNest .. => true | _ => false) = true := by decide +kernel
theorem nest_warm {s U : State} (hW : s.WarmedH U.vm) (h : ∀ w ∈ nestW, va_Nw w s) : ∀ w ∈ nestW, va_Nw w U := by
  intro w hw
  have h1 := nest_kind w hw
  have h2 := h w hw
  cases w <;> first | exact va_Nw.warmF hW h2 | exact va_Nw.warmM hW h2 | cases h1
theorem wOK.warm {g : Gm} {s U : State} (hW : s.WarmedH U.vm) (h : wOK g s) : wOK g U := ⟨h.1, h.2.1, va_K.moved hW.alike h.2.2.1, nest_warm hW h.2.2.2⟩
theorem cn_blind {g : Gm} {av : List Value} {M : Mem} : FrameBlind (va_Pc av (fun U => wOK g U ∧ hM g M U.heap ∧ gB g ≤ U.heap.size)) := by
  intro a U fr mk q
  obtain ⟨q0, ⟨q1, q2, q3, q4⟩, q5⟩ := q
  refine ⟨q0, ⟨q1, q2, va_K.moved (u := U) (U := U.calling fr mk a) (Vm.Alike.refl U.vm) q3, fun w hw => ?_⟩, q5⟩
  have h1 := nest_kind w hw
  refine va_Nw.same (u := U) ?_ rfl (q4 w hw)
  cases w <;> first | rfl | cases h1
theorem cn_call {p : Program} {l : Launch} {e : Env} {R : Room} {s : State} {m : MethodId} {args : Array Value} {below : List Frame} {meth : Method} {c : Code} {H : Heap} {locs : List Loc} {cells slots : Nat} {Q : State → Prop} {g : Gm} {pc : Nat} {ls : Array Slot} {rest st0 : List Value} {post : Option Value → Mem → Prop}
    (hr : va_Run p l e R s m args below meth c H locs cells slots 0 0 (F0 m pc ls st0) rest (fun st o t => qM g post st o t) (gA g)) (hS : va_S (gA g) s.heap H locs)
    (kk : ∀ (v : Option Value) (M' : Mem), post v M' → ∀ (H1 : Heap) (locs1 : List Loc), hM g M' H1 → va_S (gA g) s.heap H1 locs1 → W p l e R s m args below meth c H1 locs1 cells slots Q (F0 m (pc + 3) ls (v.toList ++ rest))) : W p l e R s m args below meth c H locs cells slots Q (F0 m pc ls st0) := by
  intro T hT X
  obtain ⟨v, st₀, t, T', L, h0, X', hL, e1, e2, ⟨⟨v', M', hv, hp, hM'⟩, hz, hk⟩, st⟩ := hr T hT X
  cases hv
  rw [h0] at hz hk
  obtain ⟨t2, a1, b1⟩ := kk v M' hp T'.heap (locs ++ L) (by rw [e1]; exact hM')
    ⟨Nat.le_trans hS.1 (by rw [e1]; exact hz), fun q h1 h2 => by rw [e1, hk q (Nat.lt_of_lt_of_le h1 hS.1) h2]; exact hS.2.1 q h1 h2, fun q hq => by
      rcases List.mem_append.mp hq with h | h
      · exact hS.2.2 q h
      · exact hL q h⟩ T' rfl X'
  exact ⟨t2, st t2 a1, b1⟩
abbrev okName (y : MethodName) (n : Nat) : Prop := y.cls ≠ "java/lang/invoke/MethodHandle" ∧ y.cls ≠ "java/lang/invoke/VarHandle" ∧ (parseMethodDescriptor y.desc).map (fun d => d.parameters.length) = some n
/-- a call's words: virtual, static, of a constructor; static and of a constructor between nest mates -/
def CV (own : String) (idx : Nat) (C : String) (y : MethodName) (cy : ByteArray) (nLy : Nat) (ret : Option FieldType) (n : Nat) : Prop := Cond.methodLink own idx y ∈ lw_ws ∧ Cond.instanceMethod y ∈ lw_ws ∧ Cond.selects C y y ∈ lw_ws ∧ Cond.initialized C ∈ lw_ws ∧ Cond.code y cy nLy ret ∈ lw_ws ∧ y.cls = C ∧ okName y n
def CS (own : String) (idx : Nat) (y : MethodName) (cy : ByteArray) (nLy : Nat) (ret : Option FieldType) (n : Nat) : Prop := Cond.methodLink own idx y ∈ lw_ws ∧ Cond.static y ∈ lw_ws ∧ Cond.initialized y.cls ∈ lw_ws ∧ Cond.code y cy nLy ret ∈ lw_ws ∧ okName y n
def CSN (own : String) (idx : Nat) (y : MethodName) (cy : ByteArray) (nLy : Nat) (ret : Option FieldType) (n : Nat) : Prop := Cond.methodLinkNest own idx y "RenewalClocks" ∈ nestW ∧ Cond.static y ∈ lw_ws ∧ Cond.initialized y.cls ∈ lw_ws ∧ Cond.code y cy nLy ret ∈ lw_ws ∧ okName y n
theorem wsM_in {y : MethodName} {cy : ByteArray} {nLy : Nat} {ret : Option FieldType} (h : Cond.code y cy nLy ret ∈ lw_ws) : ∀ w ∈ wsM y cy nLy ret, w ∈ lw_ws := fun w hw => (List.mem_cons.mp hw).elim (fun e => e ▸ h) id
section GCALL
variable {X : XT} {g : Gm} {cc : ByteArray} {nL : Nat} {own : String} {rf rl : Nat} {M : Mem} {pc : Nat} {lv : List (Option Value)} {st : List Value}
variable {y : MethodName} {cy : ByteArray} {nLy rf2 rl2 n idx : Nat} {ret : Option FieldType} {post : Option Value → Mem → Prop} {As rest : List Value}
theorem g_callV (F : FX X g cc nL own rf rl) {k ci : Nat} {C : String} {T : u_T} {N : Nat} (w : CV own idx C y cy nLy ret n) (hk : kd k = ci) (hC : vwCl[ci]? = some (C, T, N)) (hc9 : ci < 9) (hn : As.length = n) (hst : st = As.reverse ++ .ref (ad g k) :: rest) (hcat : (rest.map fun v => v.category).sum ≤ 8) (hR : rf2 + 1 ≤ rf ∧ 8 + (nLy + 11) + rl2 ≤ rl) (hd : decode cc pc = .ok (.invokevirtual idx, 3))
    (hM2 : Cn X.2.1 y cy nLy ret rf2 rl2 g (.ref (ad g k) :: As) M post) (kk : ∀ (v : Option Value) (M' : Mem), post v M' → G X g nL M' (pc + 3) lv (v.toList ++ rest)) : G X g nL M pc lv st := by
  obtain ⟨p, l, e, R, s, m, args, below, meth, c, cells, slots, Q⟩ := X
  obtain ⟨⟨hx, hb, hml, hown, hts⟩, hW, hrf, hrl, hcl, hsl, hgb⟩ := F
  intro H locs ls hP hS hL
  obtain ⟨w1, w2, w3, w4, w5, w6, w7⟩ := w
  have hkk : k < 228 := kd_lt hk (by omega)
  have he : (wWs g M)[k]? = some (ad g k, .inr (ci, wF g M k 0 (tpl ci))) := by rw [wWs_at g M hkk, wE_obj g M hk hc9]
  refine cn_call (va_runV (C := C) (ws := wsM y cy nLy ret) (rm := { frames := rf2, cells := 0, slots := 0, locals := rl2 }) (As := As) (rest := rest) ⟨hx, hb, hml, hown, hts⟩ hM2 (cwV n hts (ws_good (fun x hx => ?_)) rfl rfl rfl ⟨w6, w7⟩ ?_) ⟨cn_blind, va_recv hW.2.2.1 hP (q0 := k) hC he, fun U hU hWU => ⟨rfl, hW.warm hWU, by rw [hU]; exact hP, by rw [hU]; exact Nat.le_trans hgb hS.1⟩⟩ rfl hn hL.1 hst (lv_room hcat) hd ⟨hcl, hsl⟩) hS (fun v M' hp H1 locs1 hP1 hS1 => kk v M' hp H1 locs1 ls hP1 hS1 hL)
  · rcases List.mem_append.mp hx with h | h
    · simp only [List.mem_cons, List.not_mem_nil, or_false] at h
      rcases h with rfl | rfl | rfl | rfl
      · exact w1
      · exact w2
      · exact w3
      · exact w4
    · exact wsM_in w5 x h
  · rw [hrf, hrl]; exact hR
theorem g_callS (F : FX X g cc nL own rf rl) (w : CS own idx y cy nLy ret n) (hn : As.length = n) (hst : st = As.reverse ++ rest) (hcat : (rest.map fun v => v.category).sum ≤ 8) (hR : rf2 + 1 ≤ rf ∧ 8 + (nLy + 11) + rl2 ≤ rl) (hd : decode cc pc = .ok (.invokestatic idx, 3))
    (hM2 : Cn X.2.1 y cy nLy ret rf2 rl2 g As M post) (kk : ∀ (v : Option Value) (M' : Mem), post v M' → G X g nL M' (pc + 3) lv (v.toList ++ rest)) : G X g nL M pc lv st := by
  obtain ⟨p, l, e, R, s, m, args, below, meth, c, cells, slots, Q⟩ := X
  obtain ⟨⟨hx, hb, hml, hown, hts⟩, hW, hrf, hrl, hcl, hsl, hgb⟩ := F
  intro H locs ls hP hS hL
  obtain ⟨w1, w2, w4, w5, w7⟩ := w
  refine cn_call (va_runS (ws := wsM y cy nLy ret) (rm := { frames := rf2, cells := 0, slots := 0, locals := rl2 }) (As := As) (rest := rest) ⟨hx, hb, hml, hown, hts⟩ hM2 (va_cwS n hts (ws_good (fun x hx => ?_)) rfl rfl rfl w7 ?_) ⟨cn_blind, fun U hU hWU => ⟨rfl, hW.warm hWU, by rw [hU]; exact hP, by rw [hU]; exact Nat.le_trans hgb hS.1⟩⟩ rfl hn hL.1 hst (lv_room hcat) hd ⟨hcl, hsl⟩) hS (fun v M' hp H1 locs1 hP1 hS1 => kk v M' hp H1 locs1 ls hP1 hS1 hL)
  · rcases List.mem_append.mp hx with h | h
    · simp only [List.mem_cons, List.not_mem_nil, or_false] at h
      rcases h with rfl | rfl | rfl
      · exact w1
      · exact w2
      · exact w4
    · exact wsM_in w5 x h
  · rw [hrf, hrl]; exact hR
theorem g_callSN (F : FX X g cc nL own rf rl) (w : CSN own idx y cy nLy ret n) (hn : As.length = n) (hst : st = As.reverse ++ rest) (hcat : (rest.map fun v => v.category).sum ≤ 8) (hR : rf2 + 1 ≤ rf ∧ 8 + (nLy + 11) + rl2 ≤ rl) (hd : decode cc pc = .ok (.invokestatic idx, 3))
    (hM2 : Cn X.2.1 y cy nLy ret rf2 rl2 g As M post) (kk : ∀ (v : Option Value) (M' : Mem), post v M' → G X g nL M' (pc + 3) lv (v.toList ++ rest)) : G X g nL M pc lv st := by
  obtain ⟨p, l, e, R, s, m, args, below, meth, c, cells, slots, Q⟩ := X
  obtain ⟨⟨hx, hb, hml, hown, hts⟩, hW, hrf, hrl, hcl, hsl, hgb⟩ := F
  intro H locs ls hP hS hL
  obtain ⟨w1, w2, w4, w5, w7⟩ := w
  refine cn_call (va_runSN (host := "RenewalClocks") (ws := wsM y cy nLy ret) (rm := { frames := rf2, cells := 0, slots := 0, locals := rl2 }) (As := As) (rest := rest) ⟨hx, hb, hml, hown, hts⟩ hM2 ⟨va_cnB n hts (ws_good (wsM_in w5)) rfl rfl rfl (hW.2.2.2 _ w1) (hts _ w4) w7 ?_, hts _ w2, trivial⟩ ⟨cn_blind, fun U hU hWU => ⟨rfl, hW.warm hWU, by rw [hU]; exact hP, by rw [hU]; exact Nat.le_trans hgb hS.1⟩⟩ rfl hn hL.1 hst (lv_room hcat) hd ⟨hcl, hsl⟩) hS (fun v M' hp H1 locs1 hP1 hS1 => kk v M' hp H1 locs1 ls hP1 hS1 hL)
  rw [hrf, hrl]; exact hR
end GCALL
/-! ends -/
def RX (X : XT) (g : Gm) (ret : Option FieldType) (post : Option Value → Mem → Prop) : Prop := match X with
  | (_, _, _, _, s, _, args, below, meth, _, cells, slots, Q) => meth.sig.returnType = ret ∧ meth.locks = false ∧ cells = 0 ∧ slots = 0 ∧ Q = MQ below (fun _ st o t => qM g post st o t) args s 0 0 (gA g)
section GRET
variable {X : XT} {g : Gm} {cc : ByteArray} {nL : Nat} {own : String} {rf rl : Nat} {M : Mem} {pc : Nat} {lv : List (Option Value)} {post : Option Value → Mem → Prop}

theorem g_iret (F : FX X g cc nL own rf rl) {v : Int32} (r : RX X g (some .int) post) (hd : decode cc pc = .ok (.ireturn, 1)) (h : post (some (.int v)) M) : G X g nL M pc lv [.int v] := by
  obtain ⟨p, l, e, R, s, m, args, below, meth, c, cells, slots, Q⟩ := X
  obtain ⟨⟨hx, hb, hml, hown, hts⟩, hW, hrf, hrl, hcl, hsl, hgb⟩ := F
  intro H locs ls hP hS hL
  obtain ⟨hr, hlk, rfl, rfl, rfl⟩ := r
  exact W.iret hx hb hr (fun t ht hWt => ⟨⟨_, M, rfl, h, by rw [ht]; exact hP⟩, hS.F ht⟩) hS.2.2 hd hlk
theorem g_zret (F : FX X g cc nL own rf rl) {v : Int32} {ty : FieldType} (hn : narrow ty (.int v) = .int v) (r : RX X g (some ty) post) (hd : decode cc pc = .ok (.ireturn, 1)) (h : post (some (.int v)) M) : G X g nL M pc lv [.int v] := by
  obtain ⟨p, l, e, R, s, m, args, below, meth, c, cells, slots, Q⟩ := X
  obtain ⟨⟨hx, hb, hml, hown, hts⟩, hW, hrf, hrl, hcl, hsl, hgb⟩ := F
  intro H locs ls hP hS hL
  obtain ⟨hr, hlk, rfl, rfl, rfl⟩ := r
  exact W.zret hx hb hr hn (fun t ht hWt => ⟨⟨_, M, rfl, h, by rw [ht]; exact hP⟩, hS.F ht⟩) hS.2.2 hd hlk
theorem g_vret (F : FX X g cc nL own rf rl)  (r : RX X g (none) post) (hd : decode cc pc = .ok (.return_, 1)) (h : post none M) : G X g nL M pc lv [] := by
  obtain ⟨p, l, e, R, s, m, args, below, meth, c, cells, slots, Q⟩ := X
  obtain ⟨⟨hx, hb, hml, hown, hts⟩, hW, hrf, hrl, hcl, hsl, hgb⟩ := F
  intro H locs ls hP hS hL
  obtain ⟨hr, hlk, rfl, rfl, rfl⟩ := r
  exact W.vret hx hb hr (fun t ht hWt => ⟨⟨_, M, rfl, h, by rw [ht]; exact hP⟩, hS.F ht⟩) hS.2.2 hd hlk
theorem g_lret (F : FX X g cc nL own rf rl) {v : Int64} (r : RX X g (some .long) post) (hd : decode cc pc = .ok (.lreturn, 1)) (h : post (some (.long v)) M) : G X g nL M pc lv [.long v] := by
  obtain ⟨p, l, e, R, s, m, args, below, meth, c, cells, slots, Q⟩ := X
  obtain ⟨⟨hx, hb, hml, hown, hts⟩, hW, hrf, hrl, hcl, hsl, hgb⟩ := F
  intro H locs ls hP hS hL
  obtain ⟨hr, hlk, rfl, rfl, rfl⟩ := r
  exact W.lret hx hb hr (fun t ht hWt => ⟨⟨_, M, rfl, h, by rw [ht]; exact hP⟩, hS.F ht⟩) hS.2.2 hd hlk
theorem g_dret (F : FX X g cc nL own rf rl) {v : UInt64} (r : RX X g (some .double) post) (hd : decode cc pc = .ok (.dreturn, 1)) (h : post (some (.double v)) M) : G X g nL M pc lv [.double v] := by
  obtain ⟨p, l, e, R, s, m, args, below, meth, c, cells, slots, Q⟩ := X
  obtain ⟨⟨hx, hb, hml, hown, hts⟩, hW, hrf, hrl, hcl, hsl, hgb⟩ := F
  intro H locs ls hP hS hL
  obtain ⟨hr, hlk, rfl, rfl, rfl⟩ := r
  exact W.dret hx hb hr (fun t ht hWt => ⟨⟨_, M, rfl, h, by rw [ht]; exact hP⟩, hS.F ht⟩) hS.2.2 hd hlk
theorem g_aret (F : FX X g cc nL own rf rl) {v : Nat} {C : String} (r : RX X g (some (.object C)) post) (hd : decode cc pc = .ok (.areturn, 1)) (h : post (some (.ref v)) M) : G X g nL M pc lv [.ref v] := by
  obtain ⟨p, l, e, R, s, m, args, below, meth, c, cells, slots, Q⟩ := X
  obtain ⟨⟨hx, hb, hml, hown, hts⟩, hW, hrf, hrl, hcl, hsl, hgb⟩ := F
  intro H locs ls hP hS hL
  obtain ⟨hr, hlk, rfl, rfl, rfl⟩ := r
  exact W.aret hx hb hr (Or.inl ⟨C, rfl⟩) (Or.inr ⟨v, rfl⟩) (fun t ht hWt => ⟨⟨_, M, rfl, h, by rw [ht]; exact hP⟩, hS.F ht⟩) hS.2.2 hd hlk
theorem g_aretN (F : FX X g cc nL own rf rl) {C : String} (r : RX X g (some (.object C)) post) (hd : decode cc pc = .ok (.areturn, 1)) (h : post (some .null) M) : G X g nL M pc lv [.null] := by
  obtain ⟨p, l, e, R, s, m, args, below, meth, c, cells, slots, Q⟩ := X
  obtain ⟨⟨hx, hb, hml, hown, hts⟩, hW, hrf, hrl, hcl, hsl, hgb⟩ := F
  intro H locs ls hP hS hL
  obtain ⟨hr, hlk, rfl, rfl, rfl⟩ := r
  exact W.aret hx hb hr (Or.inl ⟨C, rfl⟩) (Or.inl rfl) (fun t ht hWt => ⟨⟨_, M, rfl, h, by rw [ht]; exact hP⟩, hS.F ht⟩) hS.2.2 hd hlk
end GRET
def lvE : List Value → List (Option Value)
  | [] => []
  | v :: vs => if v.category = 2 then some v :: none :: lvE vs else some v :: lvE vs
theorem lvE_sound (kp : Nat) : ∀ (av : List Value) (j0 i : Nat) (v : Value), lg (lvE av ++ List.replicate kp none) i = some v → (j0 + i, v) ∈ lv_args j0 av := by
  intro av
  induction av with
  | nil =>
    intro j0 i v h
    exfalso
    have : ∀ (n i : Nat), lg (List.replicate n none) i = none := by
      intro n
      induction n with
      | zero => intro i; rfl
      | succ n ih => intro i; cases i with
        | zero => rfl
        | succ i => exact ih i
    simp [lvE, this] at h
  | cons a av ih =>
    intro j0 i v h
    unfold lvE at h
    by_cases hc : a.category = 2
    · rw [if_pos hc] at h
      unfold lv_args
      rw [if_pos hc]
      match i, h with
      | 0, h => simp [lg] at h; subst h; exact List.mem_cons_self
      | 1, h => simp [lg] at h
      | i + 2, h =>
        have := ih (j0 + 2) i v (by simpa [lg] using h)
        rw [show j0 + (i + 2) = j0 + 2 + i by omega]
        exact List.mem_cons_of_mem _ this
    · rw [if_neg hc] at h
      unfold lv_args
      rw [if_neg hc]
      match i, h with
      | 0, h => simp [lg] at h; subst h; exact List.mem_cons_self
      | i + 1, h =>
        have := ih (j0 + 1) i v (by simpa [lg] using h)
        rw [show j0 + (i + 1) = j0 + 1 + i by omega]
        exact List.mem_cons_of_mem _ this
/-- a contract out of a walk from pc 0 -/
theorem Cn.intro {l : Launch} {y : MethodName} {cy : ByteArray} {nL : Nat} {ret : Option FieldType} {rf rl : Nat} {g : Gm} {av : List Value} {M : Mem} {post : Option Value → Mem → Prop} {lv0 : List (Option Value)} (kp : Nat) (hy : plainName y.cls = true) (hlen : (lg_sl av).length ≤ nL) (hlv : lvE av ++ List.replicate kp none = lv0)
    (body : ∀ X : XT, FX X g cy nL y.cls rf rl → RX X g ret post → G X g nL M 0 lv0 []) : Cn l y cy nL ret rf rl g av M post := by
  refine Met.ofW (ws := wsM y cy nL ret) (ws' := lw_ws) (cc := cy) (maxL := nL) (ret := ret) hy rfl ?_
  intro p e s m args below meth c s₁ B hml hv
  obtain ⟨rfl, hW, hP, hgb⟩ := hv
  have hts := atoms_spec (ws := wsM y cy nL ret) B.pre
  have hl := lv_entry av (n := nL) hlen
  rw [lg_entry_eq]
  refine body (p, l, e, _, s, m, av.toArray, below, meth, c, 0, 0, _) ⟨⟨B.exec, B.bytes, hml, findClass_of_methodNamed B.named, fun w hw => hts w (List.mem_cons_of_mem _ hw)⟩, hW, rfl, rfl, Nat.zero_le _, Nat.zero_le _, hgb⟩ ⟨B.returns, B.notSynchronized, rfl, rfl, rfl⟩ s.heap [] _ hP va_S.rf (lhas.of hl (fun i v hi => ?_))
  rw [← hlv] at hi
  have := lvE_sound kp av 0 i v hi
  rwa [Nat.zero_add] at this
/-- a weaker post -/
theorem Cn.weaken {l : Launch} {y : MethodName} {cy : ByteArray} {nL : Nat} {ret : Option FieldType} {rf rl : Nat} {g : Gm} {av : List Value} {M : Mem} {p1 p2 : Option Value → Mem → Prop} (h : ∀ v M', p1 v M' → p2 v M') (hc : Cn l y cy nL ret rf rl g av M p1) : Cn l y cy nL ret rf rl g av M p2 := by
  intro p e ha hc1 hk s m args below hf happ hp ht
  obtain ⟨k, o, h1, h2, h3, ⟨⟨⟨v, M', q1, q2, q3⟩, q4⟩, L, h5⟩⟩ := hc p e ha hc1 hk s m args below hf happ hp ht
  exact ⟨k, o, h1, h2, h3, ⟨⟨⟨v, M', q1, h v M' q2, q3⟩, q4⟩, L, h5⟩⟩
