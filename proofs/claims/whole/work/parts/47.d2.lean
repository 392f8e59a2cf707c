/-! a round of a law: its gaps, their sums -/
def gN (la a b c d : Nat) (k : Nat) : Nat := if la = 2 then (if k < b then a else c) else if k = 0 then a else if k = 1 then b else if k = 2 then c else d
def sN (f : Nat → Nat) : Nat → Nat
  | 0 => 0
  | n + 1 => sN f n + f n
theorem sN_eq {f : Nat → Nat} {v : Nat} : ∀ n, (∀ k, k < n → f k = v) → sN f n = n * v := by
  intro n
  induction n with
  | zero => intro _; exact (Nat.zero_mul v).symm
  | succ n ih =>
    intro h
    show sN f n + f n = _
    rw [ih (fun k hk => h k (by omega)), h n (by omega), Nat.succ_mul]
theorem sN_le {f f' : Nat → Nat} : ∀ n, (∀ k, k < n → f k ≤ f' k) → sN f n ≤ sN f' n := by
  intro n
  induction n with
  | zero => exact fun _ => Nat.le_refl _
  | succ n ih => exact fun h => Nat.add_le_add (ih (fun k hk => h k (by omega))) (h n (by omega))
theorem sN_mul (f : Nat → Nat) (v : Nat) : ∀ n, sN (fun k => v * f k) n = v * sN f n := by
  intro n
  induction n with
  | zero => rfl
  | succ n ih =>
    show sN (fun k => v * f k) n + v * f n = v * (sN f n + f n)
    rw [ih, Nat.mul_add]
theorem gN_rng {w : Nat → Int32} {la a b c d k : Nat} (h : LI w la a b c d) (hk : k < NP la b c d) : 1 ≤ gN la a b c d k ∧ gN la a b c d k ≤ 50 := by
  obtain ⟨h0, h1, h2, h3, h4, b0, b1, b2, b3, b4, b5, q1, q2⟩ := h
  unfold NP at hk
  unfold gN
  by_cases hl : la = 2
  · rw [if_pos hl]
    have := q1 hl
    split <;> omega
  · rw [if_neg hl]
    rw [if_neg hl] at hk
    have := q2 hl
    by_cases k0 : k = 0
    · rw [if_pos k0]; omega
    · rw [if_neg k0]
      by_cases hb : 0 < b <;> by_cases hc : 0 < c <;> by_cases hd : 0 < d <;> simp [hb, hc, hd] at hk <;> (repeat' split) <;> omega
theorem gN_gapAt {w : Nat → Int32} {la a b c d k : Nat} (h : LI w la a b c d) (hk : k < NP la b c d) : gapAt w (nI k) = nI (gN la a b c d k) := by
  have hl2 := LI_law2 h
  have hP := (NP_bound (la := la) (b := b) (c := c) (d := d) (h.2.2.2.2.2.2.2.2.1)).2
  obtain ⟨h0, h1, h2, h3, h4, b0, b1, b2, b3, b4, b5, q1, q2⟩ := h
  unfold gapAt gN
  by_cases hl : la = 2
  · rw [if_pos (hl2.mpr hl), if_pos hl, h2, h1, h3]
    by_cases hkb : k < b
    · rw [if_pos hkb, if_pos ((nI_ltI (by omega) (by omega)).mpr hkb)]
    · rw [if_neg hkb, if_neg (fun e => hkb ((nI_ltI (by omega) (by omega)).mp e))]
  · rw [if_neg (fun e => hl (hl2.mp e)), if_neg hl, nI_clamp (by omega)]
    have hk4 : k < 4 := by
      unfold NP at hk
      rw [if_neg hl] at hk
      by_cases hb : 0 < b <;> by_cases hc : 0 < c <;> by_cases hd : 0 < d <;> simp [hb, hc, hd] at hk <;> omega
    match k, hk4 with
    | 0, _ => exact h1
    | 1, _ => exact h2
    | 2, _ => exact h3
    | 3, _ => exact h4
def LSu (la a b c d : Nat) : Nat := sN (gN la a b c d) (NP la b c d)
def LSq (la a b c d : Nat) : Nat := sN (fun k => gN la a b c d k * gN la a b c d k) (NP la b c d)
theorem LSu_rng {w : Nat → Int32} {la a b c d : Nat} (h : LI w la a b c d) : 1 ≤ LSu la a b c d ∧ LSu la a b c d ≤ LSq la a b c d ∧ LSu la a b c d ≤ 2550 ∧ LSq la a b c d ≤ 127500 := by
  have hP := NP_bound (la := la) (b := b) (c := c) (d := d) (h.2.2.2.2.2.2.2.2.1)
  have e1 : sN (fun _ => 1) (NP la b c d) = NP la b c d * 1 := sN_eq _ (fun _ _ => rfl)
  have e2 : sN (fun _ => 50) (NP la b c d) = NP la b c d * 50 := sN_eq _ (fun _ _ => rfl)
  have l1 : sN (fun _ => 1) (NP la b c d) ≤ LSu la a b c d := sN_le _ (fun k hk => (gN_rng h hk).1)
  have l2 : LSu la a b c d ≤ sN (fun _ => 50) (NP la b c d) := sN_le _ (fun k hk => (gN_rng h hk).2)
  have l3 : LSu la a b c d ≤ LSq la a b c d := sN_le _ (fun k hk => by
    have := Nat.mul_le_mul_right (gN la a b c d k) (gN_rng h hk).1
    omega)
  have l4 : LSq la a b c d ≤ sN (fun k => 50 * gN la a b c d k) (NP la b c d) := sN_le _ (fun k hk => Nat.mul_le_mul_right _ (gN_rng h hk).2)
  rw [sN_mul] at l4
  have l5 : sN (gN la a b c d) (NP la b c d) = LSu la a b c d := rfl
  omega
theorem radc_1 (r : Nat → Int32) (x : Nat) (hx : x ≤ 50) : radc r (nI x) 1 = r 1 + nI x ∧ radc r (nI x) 2 = r 2 + nI (x * x) ∧ radc r (nI x) 3 = r 3 + nI ((x * x + x) / 2) := by
  unfold radc
  by_cases h : 0 < x
  · rw [if_pos ((nI_lt0 (by omega)).mpr h)]
    refine ⟨?_, ?_, ?_⟩
    · show r 1 + nI x * 1 = _
      rw [Int32.mul_one]
    · show r 2 + nI x * nI x * 1 = _
      rw [Int32.mul_one, nI_mul]
    · show r 3 + nI x * (nI x + 1) / 2 * 1 = _
      rw [wait_half x (by omega)]
  · rw [if_neg (fun e => h ((nI_lt0 (by omega)).mp e))]
    obtain rfl : x = 0 := by omega
    exact ⟨(Int32.add_zero _).symm, (Int32.add_zero _).symm, (Int32.add_zero _).symm⟩
theorem rnd_sums {w : Nat → Int32} {la a b c d : Nat} (h : LI w la a b c d) : rnd (w 0) (fun j => w (1 + j)) 1 = nI (LSu la a b c d) ∧ rnd (w 0) (fun j => w (1 + j)) 2 = nI (LSq la a b c d) ∧ rnd (w 0) (fun j => w (1 + j)) 3 = nI ((LSq la a b c d + LSu la a b c d) / 2) := by
  have hl2 := LI_law2 h
  obtain ⟨h0, h1, h2, h3, h4, b0, b1, b2, b3, b4, b5, q1, q2⟩ := h
  unfold rnd rndR LSu LSq
  by_cases hl : la = 2
  · have eP : NP la b c d = b + 1 := if_pos hl
    have s1 : sN (gN la a b c d) b = b * a := sN_eq b (fun k hk => by unfold gN; rw [if_pos hl, if_pos hk])
    have s2 : sN (fun k => gN la a b c d k * gN la a b c d k) b = b * (a * a) := sN_eq b (fun k hk => by unfold gN; rw [if_pos hl, if_pos hk])
    have gb : gN la a b c d b = c := by unfold gN; rw [if_pos hl, if_neg (Nat.lt_irrefl b)]
    have t1 : sN (gN la a b c d) (b + 1) = b * a + c := by show sN _ b + _ = _; rw [s1, gb]
    have t2 : sN (fun k => gN la a b c d k * gN la a b c d k) (b + 1) = b * (a * a) + c * c := by show sN _ b + gN la a b c d b * gN la a b c d b = _; rw [s2, gb]
    rw [if_pos (hl2.mpr hl), eP, t1, t2]
    have ea := wait_even a (by omega)
    have ec := wait_even c (by omega)
    refine ⟨?_, ?_, ?_⟩
    · show (0 + w 1 * w 2) + w 3 * 1 = _
      rw [h1, h2, h3, Int32.zero_add, Int32.mul_one, nI_mul, nI_add, Nat.mul_comm]
    · show (0 + w 1 * w 1 * w 2) + w 3 * w 3 * 1 = _
      rw [h1, h2, h3, Int32.zero_add, Int32.mul_one, nI_mul, nI_mul, nI_mul, nI_add, Nat.mul_comm (a * a) b]
    · show (0 + w 1 * (w 1 + 1) / 2 * w 2) + w 3 * (w 3 + 1) / 2 * 1 = _
      have wa := wait_half a (by omega)
      rw [Int32.mul_one] at wa
      rw [h1, h2, h3, Int32.zero_add, wa, wait_half c (by omega), nI_mul, nI_add]
      congr 1
      have m1 : a * a + a = 2 * ((a * a + a) / 2) := by omega
      have m2 : b * (a * a) + b * a = 2 * (b * ((a * a + a) / 2)) := by rw [← Nat.mul_add, m1, ← Nat.mul_assoc, ← Nat.mul_assoc, Nat.mul_comm b 2, ← m1]
      rw [Nat.mul_comm ((a * a + a) / 2) b]
      generalize b * ((a * a + a) / 2) = B at m2 ⊢
      generalize b * (a * a) = B1 at m2 ⊢
      generalize b * a = B2 at m2 ⊢
      generalize c * c = C at ec ⊢
      omega
  · rw [if_neg (fun e => hl (hl2.mp e))]
    have := q2 hl
    have e : ∀ j, radcs (fun _ => 0) (fun j => w (1 + j)) 4 j = radc (radc (radc (radc (fun _ => 0) (nI a)) (nI b)) (nI c)) (nI d) j := by
      intro j
      show radc (radc (radc (radc (fun _ => 0) (w 1)) (w 2)) (w 3)) (w 4) j = _
      rw [h1, h2, h3, h4]
    have g0 : gN la a b c d 0 = a := by unfold gN; rw [if_neg hl]; rfl
    have g1 : gN la a b c d 1 = b := by unfold gN; rw [if_neg hl]; rfl
    have g2 : gN la a b c d 2 = c := by unfold gN; rw [if_neg hl]; rfl
    have g3 : gN la a b c d 3 = d := by unfold gN; rw [if_neg hl]; rfl
    have eS : sN (gN la a b c d) (NP la b c d) = a + b + c + d ∧ sN (fun k => gN la a b c d k * gN la a b c d k) (NP la b c d) = a * a + b * b + c * c + d * d := by
      have x1 : ∀ f : Nat → Nat, sN f 1 = 0 + f 0 := fun _ => rfl
      have x2 : ∀ f : Nat → Nat, sN f 2 = 0 + f 0 + f 1 := fun _ => rfl
      have x3 : ∀ f : Nat → Nat, sN f 3 = 0 + f 0 + f 1 + f 2 := fun _ => rfl
      have x4 : ∀ f : Nat → Nat, sN f 4 = 0 + f 0 + f 1 + f 2 + f 3 := fun _ => rfl
      unfold NP
      rw [if_neg hl]
      by_cases hb : 0 < b
      · by_cases hc : 0 < c
        · by_cases hd : 0 < d
          · rw [if_pos hb, if_pos hc, if_pos hd, x4, x4, g0, g1, g2, g3, Nat.zero_add, Nat.zero_add]
            exact ⟨rfl, rfl⟩
          · obtain rfl : d = 0 := by omega
            rw [if_pos hb, if_pos hc, if_neg hd, x3, x3, g0, g1, g2, Nat.zero_add, Nat.zero_add]
            exact ⟨rfl, rfl⟩
        · obtain rfl : c = 0 := by omega
          obtain rfl : d = 0 := by omega
          rw [if_pos hb, if_neg hc, x2, x2, g0, g1, Nat.zero_add, Nat.zero_add]
          exact ⟨rfl, rfl⟩
      · obtain rfl : b = 0 := by omega
        obtain rfl : c = 0 := by omega
        obtain rfl : d = 0 := by omega
        rw [if_neg hb, x1, x1, g0, Nat.zero_add, Nat.zero_add]
        exact ⟨rfl, rfl⟩
    rw [eS.1, eS.2, e, e, e]
    have ra := fun r => radc_1 r a b2
    have rb := fun r => radc_1 r b b3
    have rc := fun r => radc_1 r c b4
    have rd := fun r => radc_1 r d b5
    have ea := wait_even a (by omega)
    have eb := wait_even b (by omega)
    have ec := wait_even c (by omega)
    have ed := wait_even d (by omega)
    refine ⟨?_, ?_, ?_⟩
    · rw [(rd _).1, (rc _).1, (rb _).1, (ra _).1, Int32.zero_add, nI_add, nI_add, nI_add]
    · rw [(rd _).2.1, (rc _).2.1, (rb _).2.1, (ra _).2.1, Int32.zero_add, nI_add, nI_add, nI_add]
    · rw [(rd _).2.2, (rc _).2.2, (rb _).2.2, (ra _).2.2, Int32.zero_add, nI_add, nI_add, nI_add]
      congr 1
      generalize a * a = A at ea ⊢
      generalize b * b = B at eb ⊢
      generalize c * c = C at ec ⊢
      generalize d * d = D at ed ⊢
      omega
theorem rnd_0 {w : Nat → Int32} {la a b c d : Nat} (h : LI w la a b c d) : rnd (w 0) (fun j => w (1 + j)) 0 = nI (NP la b c d) := by
  rw [← LI_places h]
  unfold rnd rndR places
  by_cases hl : w 0 = 2
  · rw [if_pos hl, if_pos hl]
    show (0 + w 2) + 1 = w 2 + 1
    rw [Int32.zero_add]
  · rw [if_neg hl, if_neg hl]
    have e : ∀ (r : Nat → Int32) (x : Int32), radc r x 0 = r 0 + (if 0 < x then 1 else 0) := by
      intro r x
      unfold radc
      by_cases hx : 0 < x
      · rw [if_pos hx, if_pos hx]; rfl
      · rw [if_neg hx, if_neg hx, Int32.add_zero]
    show radc (radc (radc (radc (fun _ => 0) (w 1)) (w 2)) (w 3)) (w 4) 0 = _
    rw [e, e, e, e, Int32.zero_add]
/-! means -/
def meanF (k many sum sq wt : Int32) : UInt64 := if k = 0 then FP.ddiv (FP.i2d sum) (FP.i2d many) else FP.ddiv (FP.i2d (if k = 1 then sq else wt)) (FP.i2d sum)
theorem ddiv_ok (a : Int32) {b : Int32} (hb : b ≠ 0) : vf_n64 (FP.ddiv (FP.i2d a) (FP.i2d b)) := n64_ofb (FP.Core.ddiv_out (FP.Core.i2d_fin a).notNaN (FP.Core.i2d_fin b) (fun h => FP.Core.i2d_ne_zero hb ((FP.Core.zero_bits2 _).mp h)))
theorem nI_pos_int {n : Nat} (h1 : 1 ≤ n) (h2 : n < 2147483648) : 0 < (nI n).toInt := by
  rw [nI_toInt h2]
  omega
theorem meanF_nr (k : Int32) {m s q w : Nat} (hm : 1 ≤ m) (hs : 1 ≤ s) (hq : 1 ≤ q) (hw : 1 ≤ w) (hm2 : m < 2147483648) (hs2 : s < 2147483648) (hq2 : q < 2147483648) (hw2 : w < 2147483648) : ∃ c e, NR (meanF k (nI m) (nI s) (nI q) (nI w)) false c e ∧ -85 ≤ e ∧ e ≤ 85 := by
  unfold meanF
  split
  · exact nr_mean (nI_pos_int hs hs2) (nI_pos_int hm hm2)
  · split
    · exact nr_mean (nI_pos_int hq hq2) (nI_pos_int hs hs2)
    · exact nr_mean (nI_pos_int hw hw2) (nI_pos_int hs hs2)
/-- by the law alone -/
def lawF (w : Nat → Int32) (k : Int32) : UInt64 := meanF k (rnd (w 0) (fun j => w (1 + j)) 0) (rnd (w 0) (fun j => w (1 + j)) 1) (rnd (w 0) (fun j => w (1 + j)) 2) (rnd (w 0) (fun j => w (1 + j)) 3)
theorem lawF_nr {w : Nat → Int32} {la a b c d : Nat} (h : LI w la a b c d) (k : Int32) : ∃ c e, NR (lawF w k) false c e ∧ -85 ≤ e ∧ e ≤ 85 := by
  have hP := NP_bound (la := la) (b := b) (c := c) (d := d) (h.2.2.2.2.2.2.2.2.1)
  have hS := LSu_rng h
  obtain ⟨r1, r2, r3⟩ := rnd_sums h
  unfold lawF
  rw [rnd_0 h, r1, r2, r3]
  exact meanF_nr k hP.1 hS.1 (by omega) (by omega) (by omega) (by omega) (by omega) (by omega)
