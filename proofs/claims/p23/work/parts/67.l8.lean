/-! who is next: a place for each clock -/
def rk (K : Nat → Nat) (c : Nat) : Nat → Nat
  | 0 => 0
  | i + 1 => if K i < K c then rk K c i + 1 else rk K c i
theorem rk_s (K : Nat → Nat) (c i : Nat) : rk K c (i + 1) = if K i < K c then rk K c i + 1 else rk K c i := rfl
theorem rk_mono (K : Nat → Nat) {a b : Nat} (h : K a ≤ K b) : ∀ n, rk K a n ≤ rk K b n := by
  intro n
  induction n with
  | zero => exact Nat.le_refl 0
  | succ n ih =>
    rw [rk_s, rk_s]
    by_cases h1 : K n < K a
    · rw [if_pos h1, if_pos (by omega)]; omega
    · rw [if_neg h1]
      split <;> omega
theorem rk_strict (K : Nat → Nat) {a b : Nat} (h : K a < K b) : ∀ n, a < n → rk K a n < rk K b n := by
  intro n
  induction n with
  | zero => intro h0; exact absurd h0 (Nat.not_lt_zero a)
  | succ n ih =>
    intro ha
    rw [rk_s, rk_s]
    by_cases hn : a = n
    · subst hn
      rw [if_neg (Nat.lt_irrefl _), if_pos h]
      have := rk_mono K (Nat.le_of_lt h) a
      omega
    · have := ih (by omega)
      by_cases h1 : K n < K a
      · rw [if_pos h1, if_pos (by omega)]; omega
      · rw [if_neg h1]
        split <;> omega
theorem rk_le (K : Nat → Nat) (c : Nat) : ∀ n, rk K c n + (if c < n then 1 else 0) ≤ n := by
  intro n
  induction n with
  | zero => rw [if_neg (Nat.not_lt_zero c)]; exact Nat.le_refl 0
  | succ n ih =>
    rw [rk_s]
    by_cases hc : c = n
    · subst hc
      rw [if_neg (Nat.lt_irrefl (K c)), if_pos (Nat.lt_succ_self c)]
      rw [if_neg (Nat.lt_irrefl c)] at ih
      omega
    · by_cases h1 : c < n
      · rw [if_pos h1] at ih
        rw [if_pos (show c < n + 1 by omega)]
        split <;> omega
      · rw [if_neg h1] at ih
        rw [if_neg (show ¬ c < n + 1 by omega)]
        split <;> omega
theorem rk_lt (K : Nat → Nat) {c n : Nat} (h : c < n) : rk K c n < n := by
  have := rk_le K c n
  rw [if_pos h] at this
  omega
theorem rk_surj (K : Nat → Nat) : ∀ n, (∀ i j, i < n → j < n → i ≠ j → K i ≠ K j) → ∀ p, p < n → ∃ i, i < n ∧ rk K i n = p := by
  intro n
  induction n with
  | zero => intro _ p hp; exact absurd hp (Nat.not_lt_zero p)
  | succ n ih =>
    intro hK p hp
    have ih' := ih (fun i j hi hj => hK i j (by omega) (by omega))
    have em : rk K n (n + 1) = rk K n n := by rw [rk_s, if_neg (Nat.lt_irrefl _)]
    rcases Nat.lt_trichotomy p (rk K n n) with h | h | h
    · have hle := rk_le K n n
      rw [if_neg (Nat.lt_irrefl n)] at hle
      obtain ⟨i, hi, e⟩ := ih' p (by omega)
      refine ⟨i, by omega, ?_⟩
      rw [rk_s, if_neg (fun q => ?_)]
      · exact e
      · have := rk_mono K (Nat.le_of_lt q) n
        omega
    · exact ⟨n, by omega, by rw [em, h]⟩
    · obtain ⟨i, hi, e⟩ := ih' (p - 1) (by omega)
      refine ⟨i, by omega, ?_⟩
      have hne := hK i n (by omega) (by omega) (by omega)
      rw [rk_s, if_pos (Classical.byContradiction fun q => ?_)]
      · omega
      · have := rk_strict K (a := i) (b := n) (by omega) n hi
        omega
def Kq (S : SV) (i : Nat) : Nat := (restW S i).toNatClampNeg * 8 + i
theorem Kq_of {S : SV} {i q : Nat} (h : restW S i = nI q) (hq : q ≤ 50) : Kq S i = q * 8 + i := by
  unfold Kq
  rw [h, nI_clamp (by omega)]
theorem ahead_rk {S : SV} {t c : Nat} (hi : Inv S t) (hc : c < cn S) : ∀ i, i ≤ cn S → aheadW S c i = nI (rk (Kq S) c i) := by
  have h6 := hi.cn_le.1
  obtain ⟨qc, c1, c2, c3⟩ := rest_pos hi hc
  have ec := Kq_of c3 c2
  intro i
  induction i with
  | zero => intro _; exact nI0
  | succ i ih =>
    intro hin
    obtain ⟨qi, i1, i2, i3⟩ := rest_pos hi (show i < cn S by omega)
    have ei := Kq_of i3 i2
    have hiff : (restW S i < restW S c ∨ (restW S i = restW S c ∧ i < c)) ↔ Kq S i < Kq S c := by
      rw [i3, c3, ei, ec, nI_ltI (by omega) (by omega), nI_inj (by omega) (by omega)]
      omega
    show (if restW S i < restW S c ∨ (restW S i = restW S c ∧ i < c) then aheadW S c i + 1 else aheadW S c i) = _
    rw [ih (by omega), rk_s]
    by_cases h : Kq S i < Kq S c
    · rw [if_pos (hiff.mpr h), if_pos h, nI_1]
    · rw [if_neg (fun e => h (hiff.mp e)), if_neg h]
theorem Kq_inj {S : SV} {t : Nat} (hi : Inv S t) : ∀ i j, i < cn S → j < cn S → i ≠ j → Kq S i ≠ Kq S j := by
  intro i j h1 h2 hne
  have h6 := hi.cn_le.1
  obtain ⟨q1, a1, a2, a3⟩ := rest_pos hi h1
  obtain ⟨q2, b1, b2, b3⟩ := rest_pos hi h2
  rw [Kq_of a3 a2, Kq_of b3 b2]
  omega
theorem nextW_none {S : SV} {p : Int32} (h : ∀ i, i < cn S → aheadW S i (cn S) ≠ p) : ∀ k, k ≤ cn S → nextW S p k = -1000004 := by
  intro k
  induction k with
  | zero => intro _; rfl
  | succ k ih =>
    intro hk
    show (if aheadW S (cn S - (k + 1)) (cn S) = p then nI (cn S - (k + 1)) else nextW S p k) = _
    rw [if_neg (h _ (by omega))]
    exact ih (by omega)
theorem nextW_some {S : SV} {p : Int32} : ∀ k, k ≤ cn S → (∃ i, cn S - k ≤ i ∧ i < cn S ∧ aheadW S i (cn S) = p) → ∃ i, i < cn S ∧ nextW S p k = nI i ∧ aheadW S i (cn S) = p := by
  intro k
  induction k with
  | zero => intro _ ⟨i, a, b, _⟩; omega
  | succ k ih =>
    intro hk ⟨i, a, b, c⟩
    show ∃ i, i < cn S ∧ (if aheadW S (cn S - (k + 1)) (cn S) = p then nI (cn S - (k + 1)) else nextW S p k) = nI i ∧ aheadW S i (cn S) = p
    by_cases h : aheadW S (cn S - (k + 1)) (cn S) = p
    · rw [if_pos h]
      exact ⟨cn S - (k + 1), by omega, rfl, h⟩
    · rw [if_neg h]
      have hne : i ≠ cn S - (k + 1) := fun e => h (e ▸ c)
      exact ih (by omega) ⟨i, by omega, b, c⟩
theorem next_at {S : SV} {t p : Nat} (hi : Inv S t) (hp : p < cn S) : ∃ i, i < cn S ∧ oNext S (nI p) = nI i ∧ rk (Kq S) i (cn S) = p := by
  have h6 := hi.cn_le.1
  obtain ⟨i, hi1, hi2⟩ := rk_surj (Kq S) (cn S) (Kq_inj hi) p hp
  obtain ⟨j, j1, j2, j3⟩ := nextW_some (S := S) (p := nI p) (cn S) (Nat.le_refl _) ⟨i, by omega, hi1, by rw [ahead_rk hi hi1 _ (Nat.le_refl _), hi2]⟩
  refine ⟨j, j1, (if_neg (nI_nneg (by omega))).trans j2, ?_⟩
  rw [ahead_rk hi j1 _ (Nat.le_refl _)] at j3
  have := rk_lt (Kq S) j1
  exact (nI_inj (by omega) (by omega)).mp j3
theorem next_no {S : SV} {t : Nat} (hi : Inv S t) : oNext S (S 0) = -1000004 := by
  have hn := hi.cn_le
  unfold oNext
  rw [hn.2, if_neg (nI_nneg (by omega))]
  refine nextW_none (fun i h e => ?_) _ (Nat.le_refl _)
  rw [ahead_rk hi h _ (Nat.le_refl _)] at e
  have := rk_lt (Kq S) h
  have e2 := (nI_inj (by omega) (by omega)).mp e
  omega
theorem key_gt {a L : Nat} (h : L ≤ a) (ha : a < 1000) : ¬ nI a ≤ nI L - 1 := by
  by_cases hL : L = 0
  · subst hL
    have e : nI 0 - 1 = -1 := by decide
    rw [e]
    intro q
    have h0 : (0 : Int32) ≤ nI a := nI_pos' (by omega)
    exact absurd (Int32.le_trans h0 q) (by decide)
  · rw [show nI L - 1 = nI (L - 1) from nI_sub (b := 1) (by omega)]
    exact nI_ge (by omega) (by omega)
theorem cnt4 (S : SV) (P : Nat → SV) (pn : Nat) : ∀ k, k < 4 → cntW (S, P, pn, fun _ => 0, 0) k = S k := fun k hk => match k, hk with
  | 0, _ | 1, _ | 2, _ | 3, _ => rfl
set_option maxHeartbeats 4000000 in
set_option maxRecDepth 100000 in
theorem so_152 {M : Mem} {S : SV} {X : XT} {g : Gm} (F : FX X g cL_isSo 9 yL_isSo.cls 5 119) (r : RX X g (some .boolean) (fun v M2 => v = some (.int 1) ∧ M2 = WM M S)) (P : Nat → SV) (pn : Nat) (hCA : CA M (S, P, pn, fun _ => 0, 0)) (hAI : AI (S, P, pn, fun _ => 0, 0)) (t : Nat) (hi : Inv S t) : ∀ n k : Nat, k + n = 4 → G X g 9 (WM M S) 152 [some (.ref (ad g 0)), some (.ref (ad g 224)), some (.ref (ad g 225)), some (.ref (ad g 226)), some (.ref (ad g 227)), some (.int 1), none, some (.int (nI k)), none] [] := by
  have hn := hi.cn_le
  intro n
  induction n with
  | zero =>
    intro k hin
    obtain rfl : k = 4 := by omega
    refine g_iload (pc := 152) F dL_isSo_152 rfl ?_
    refine g_iconst (pc := 154) (v := 4) F dL_isSo_154 (by decide) ?_
    refine g_icmp_ge (pc := 155) (tgt := 189) F dL_isSo_155 (by decide) (fun c155 => ?_) (fun c155 => ?_)
    · refine g_iload (pc := 189) F dL_isSo_189 rfl ?_
      refine g_if_eq (pc := 191) (tgt := 207) F dL_isSo_191 (by decide) (fun c191 => ?_) (fun c191 => ?_)
      · exact absurd c191 (by decide)
      · refine g_aload_n (pc := 194) F dL_isSo_194 rfl ?_
        refine g_bipush (pc := 195) (v := 10) F dL_isSo_195 (by decide) ?_
        refine g_callV (pc := 197) (rf2 := 3) (rl2 := 65) F cs_L_79 kd0 rfl (by decide) (by rfl) (by rfl) (Nat.le_of_ble_eq_true (by rfl)) (by decide) dL_isSo_197 (w_count _ g M S S P pn hCA hAI _) (fun v M2 hz => ?_)
        obtain ⟨rfl, rfl⟩ := hz
        rw [show oCount (S, P, pn, fun _ => 0, 0) 10 = nI 0 from cnt_eq S P pn 10 (by decide)]
        refine g_if_ne (pc := 200) (tgt := 207) F dL_isSo_200 (by decide) (fun c200 => ?_) (fun c200 => ?_)
        · exact absurd nI_0 c200
        · refine g_iconst (pc := 203) (v := 1) F dL_isSo_203 (by decide) ?_
          refine g_goto (pc := 204) (tgt := 208) F dL_isSo_204 (by decide) ?_
          refine g_zret (pc := 208) F (by decide) r dL_isSo_208 ?_
          exact ⟨rfl, rfl⟩
    · exact absurd (show (4 : Int32) ≤ nI 4 by decide) c155
  | succ n ih =>
    intro k hin
    refine g_iload (pc := 152) F dL_isSo_152 rfl ?_
    refine g_iconst (pc := 154) (v := 4) F dL_isSo_154 (by decide) ?_
    refine g_icmp_ge (pc := 155) (tgt := 189) F dL_isSo_155 (by decide) (fun c155 => ?_) (fun c155 => ?_)
    · exact absurd c155 (nI_ge (b := 4) (by omega) (by decide))
    · refine g_iload (pc := 158) F dL_isSo_158 rfl ?_
      refine g_if_eq (pc := 160) (tgt := 189) F dL_isSo_160 (by decide) (fun c160 => ?_) (fun c160 => ?_)
      · exact absurd c160 (by decide)
      · refine g_aload_n (pc := 163) F dL_isSo_163 rfl ?_
        refine g_iload (pc := 164) F dL_isSo_164 rfl ?_
        refine g_callV (pc := 166) (rf2 := 3) (rl2 := 65) F cs_L_79 kd0 rfl (by decide) (by rfl) (by rfl) (Nat.le_of_ble_eq_true (by rfl)) (by decide) dL_isSo_166 (w_count _ g M S S P pn hCA hAI _) (fun v M2 hz => ?_)
        obtain ⟨rfl, rfl⟩ := hz
        rw [show oCount (S, P, pn, fun _ => 0, 0) (nI k) = S k from (cnt_eq S P pn k (by omega)).trans (cnt4 S P pn k (by omega))]
        refine g_aload_n (pc := 169) F dL_isSo_169 rfl ?_
        refine g_iload (pc := 170) F dL_isSo_170 rfl ?_
        refine g_gld (pc := 172) (j := k) F rfl (by omega) dL_isSo_172 ?_
        refine g_icmp_ne (pc := 173) (tgt := 180) F dL_isSo_173 (by decide) (fun c173 => ?_) (fun c173 => ?_)
        · exact absurd rfl c173
        · refine g_iconst (pc := 176) (v := 1) F dL_isSo_176 (by decide) ?_
          refine g_goto (pc := 177) (tgt := 181) F dL_isSo_177 (by decide) ?_
          refine g_istore (pc := 181) F dL_isSo_181 (by decide) rfl ?_
          refine g_iinc (pc := 183) (v := nI (k + 1)) F dL_isSo_183 rfl (nI_1 k) (by decide) rfl ?_
          refine g_goto (pc := 186) (tgt := 152) F dL_isSo_186 (by decide) ?_
          exact G.sub [some (.ref (ad g 0)), some (.ref (ad g 224)), some (.ref (ad g 225)), some (.ref (ad g 226)), some (.ref (ad g 227)), some (.int 1), none, some (.int (nI (k + 1))), none] ⟨rfl, rfl, rfl, rfl, rfl, rfl, rfl, trivial⟩ (ih (k + 1) (by omega))
set_option maxHeartbeats 4000000 in
set_option maxRecDepth 100000 in
theorem so_57 {M : Mem} {S : SV} {X : XT} {g : Gm} (F : FX X g cL_isSo 9 yL_isSo.cls 5 119) (r : RX X g (some .boolean) (fun v M2 => v = some (.int 1) ∧ M2 = WM M S)) (P : Nat → SV) (pn : Nat) (hCA : CA M (S, P, pn, fun _ => 0, 0)) (hAI : AI (S, P, pn, fun _ => 0, 0)) (t : Nat) (hi : Inv S t) : ∀ n p L : Nat, p + n = cn S → (∀ j, j < cn S → p ≤ rk (Kq S) j (cn S) → L ≤ Kq S j) → G X g 9 (WM M S) 57 [some (.ref (ad g 0)), some (.ref (ad g 224)), some (.ref (ad g 225)), some (.ref (ad g 226)), some (.ref (ad g 227)), some (.int 1), some (.int (nI L)), some (.int (nI p)), none] [] := by
  have hn := hi.cn_le
  intro n
  induction n with
  | zero =>
    intro p L hin hL
    obtain rfl : p = cn S := by omega
    refine g_iload (pc := 57) F dL_isSo_57 rfl ?_
    refine g_aload_n (pc := 59) F dL_isSo_59 rfl ?_
    refine g_iconst (pc := 60) (v := 0) F dL_isSo_60 (by decide) ?_
    refine g_gld (pc := 61) (j := 0) F rfl (by decide) dL_isSo_61 ?_
    rw [hn.2]
    refine g_icmp_ge (pc := 62) (tgt := 149) F dL_isSo_62 (by decide) (fun c62 => ?_) (fun c62 => ?_)
    · refine g_iconst (pc := 149) (v := 0) F dL_isSo_149 (by decide) ?_
      refine g_istore (pc := 150) F dL_isSo_150 (by decide) rfl ?_
      exact G.sub [some (.ref (ad g 0)), some (.ref (ad g 224)), some (.ref (ad g 225)), some (.ref (ad g 226)), some (.ref (ad g 227)), some (.int 1), none, some (.int (nI 0)), none] ⟨rfl, rfl, rfl, rfl, rfl, rfl, rfl, trivial⟩ (so_152 F r P pn hCA hAI t hi 4 0 rfl)
    · exact absurd (Int32.le_refl _) c62
  | succ n ih =>
    intro p L hin hL
    refine g_iload (pc := 57) F dL_isSo_57 rfl ?_
    refine g_aload_n (pc := 59) F dL_isSo_59 rfl ?_
    refine g_iconst (pc := 60) (v := 0) F dL_isSo_60 (by decide) ?_
    refine g_gld (pc := 61) (j := 0) F rfl (by decide) dL_isSo_61 ?_
    rw [hn.2]
    refine g_icmp_ge (pc := 62) (tgt := 149) F dL_isSo_62 (by decide) (fun c62 => ?_) (fun c62 => ?_)
    · exact absurd c62 (nI_ge (by omega) (by omega))
    · refine g_iload (pc := 65) F dL_isSo_65 rfl ?_
      refine g_if_eq (pc := 67) (tgt := 149) F dL_isSo_67 (by decide) (fun c67 => ?_) (fun c67 => ?_)
      · exact absurd c67 (by decide)
      · refine g_aload_n (pc := 70) F dL_isSo_70 rfl ?_
        refine g_iload (pc := 71) F dL_isSo_71 rfl ?_
        refine g_callV (pc := 73) (rf2 := 2) (rl2 := 47) F cs_L_93 kd0 rfl (by decide) (by rfl) (by rfl) (Nat.le_of_ble_eq_true (by rfl)) (by decide) dL_isSo_73 (w_next _ g M S S P pn hCA hAI _) (fun v M2 hz => ?_)
        obtain ⟨rfl, rfl⟩ := hz
        obtain ⟨i, hic, eN, hrk⟩ := next_at hi (show p < cn S by omega)
        rw [eN]
        obtain ⟨q, q1, q2, q3⟩ := rest_pos hi hic
        have hK := Kq_of q3 q2
        have hLi := hL i hic (by omega)
        rw [hK] at hLi
        refine g_istore (pc := 76) F dL_isSo_76 (by decide) rfl ?_
        refine g_iload (pc := 78) F dL_isSo_78 rfl ?_
        refine g_if_lt (pc := 80) (tgt := 114) F dL_isSo_80 (by decide) (fun c80 => ?_) (fun c80 => ?_)
        · exact absurd c80 (nI_nneg (by omega))
        · refine g_iload (pc := 83) F dL_isSo_83 rfl ?_
          refine g_aload_n (pc := 85) F dL_isSo_85 rfl ?_
          refine g_iconst (pc := 86) (v := 0) F dL_isSo_86 (by decide) ?_
          refine g_gld (pc := 87) (j := 0) F rfl (by decide) dL_isSo_87 ?_
          rw [hn.2]
          refine g_icmp_ge (pc := 88) (tgt := 114) F dL_isSo_88 (by decide) (fun c88 => ?_) (fun c88 => ?_)
          · exact absurd c88 (nI_ge (by omega) (by omega))
          · refine g_aload_n (pc := 91) F dL_isSo_91 rfl ?_
            refine g_iload (pc := 92) F dL_isSo_92 rfl ?_
            refine g_callS (pc := 94) (rf2 := 0) (rl2 := 0) F cs_L_67 (by rfl) (by rfl) (Nat.le_of_ble_eq_true (by rfl)) (by decide) dL_isSo_94 (c_L_rest _ g M S i (by omega)) (fun v M2 hz => ?_)
            obtain ⟨rfl, rfl⟩ := hz
            rw [q3]
            refine g_bipush (pc := 97) (v := 8) F dL_isSo_97 (by decide) ?_
            refine g_imul (pc := 99) F dL_isSo_99 ?_
            refine g_iload (pc := 100) F dL_isSo_100 rfl ?_
            refine g_iadd (pc := 102) F dL_isSo_102 ?_
            rw [show (nI q * 8 + nI i : Int32) = nI (q * 8 + i) by rw [show (8 : Int32) = nI 8 from rfl, nI_mul, nI_add]]
            refine g_iload (pc := 103) F dL_isSo_103 rfl ?_
            refine g_iconst (pc := 105) (v := 1) F dL_isSo_105 (by decide) ?_
            refine g_isub (pc := 106) F dL_isSo_106 ?_
            refine g_icmp_le (pc := 107) (tgt := 114) F dL_isSo_107 (by decide) (fun c107 => ?_) (fun c107 => ?_)
            · exact absurd c107 (key_gt hLi (by omega))
            · refine g_iconst (pc := 110) (v := 1) F dL_isSo_110 (by decide) ?_
              refine g_goto (pc := 111) (tgt := 115) F dL_isSo_111 (by decide) ?_
              refine g_istore (pc := 115) F dL_isSo_115 (by decide) rfl ?_
              refine g_iload (pc := 117) F dL_isSo_117 rfl ?_
              refine g_if_eq (pc := 119) (tgt := 139) F dL_isSo_119 (by decide) (fun c119 => ?_) (fun c119 => ?_)
              · exact absurd c119 (by decide)
              · refine g_aload_n (pc := 122) F dL_isSo_122 rfl ?_
                refine g_iload (pc := 123) F dL_isSo_123 rfl ?_
                refine g_callS (pc := 125) (rf2 := 0) (rl2 := 0) F cs_L_67 (by rfl) (by rfl) (Nat.le_of_ble_eq_true (by rfl)) (by decide) dL_isSo_125 (c_L_rest _ g M S i (by omega)) (fun v M2 hz => ?_)
                obtain ⟨rfl, rfl⟩ := hz
                rw [q3]
                refine g_bipush (pc := 128) (v := 8) F dL_isSo_128 (by decide) ?_
                refine g_imul (pc := 130) F dL_isSo_130 ?_
                refine g_iload (pc := 131) F dL_isSo_131 rfl ?_
                refine g_iadd (pc := 133) F dL_isSo_133 ?_
                rw [show (nI q * 8 + nI i : Int32) = nI (q * 8 + i) by rw [show (8 : Int32) = nI 8 from rfl, nI_mul, nI_add]]
                refine g_iconst (pc := 134) (v := 1) F dL_isSo_134 (by decide) ?_
                refine g_iadd (pc := 135) F dL_isSo_135 ?_
                rw [nI_1]
                refine g_goto (pc := 136) (tgt := 141) F dL_isSo_136 (by decide) ?_
                refine g_istore (pc := 141) F dL_isSo_141 (by decide) rfl ?_
                refine g_iinc (pc := 143) (v := nI (p + 1)) F dL_isSo_143 rfl (nI_1 p) (by decide) rfl ?_
                refine g_goto (pc := 146) (tgt := 57) F dL_isSo_146 (by decide) ?_
                refine G.sub [some (.ref (ad g 0)), some (.ref (ad g 224)), some (.ref (ad g 225)), some (.ref (ad g 226)), some (.ref (ad g 227)), some (.int 1), some (.int (nI (q * 8 + i + 1))), some (.int (nI (p + 1))), none] ⟨rfl, rfl, rfl, rfl, rfl, rfl, rfl, rfl, trivial⟩ (ih (p + 1) (q * 8 + i + 1) (by omega) (fun j hj hr => ?_))
                have h1 : Kq S i < Kq S j := by
                  rcases Nat.lt_or_ge (Kq S i) (Kq S j) with h | h
                  · exact h
                  · have := rk_mono (Kq S) h (cn S)
                    omega
                omega
set_option maxHeartbeats 4000000 in
set_option maxRecDepth 100000 in
theorem c_L_isSo (l : Launch) (g : Gm) (M : Mem) (S : SV) (hJ : J M S) : Cn l yL_isSo cL_isSo 9 (some .boolean) 5 119 g [.ref (ad g 0), .ref (ad g 224), .ref (ad g 225), .ref (ad g 226), .ref (ad g 227)] (WM M S) (fun v M2 => v = some (.int 1) ∧ M2 = WM M S) := by
  refine Cn.intro (lv0 := [some (.ref (ad g 0)), some (.ref (ad g 224)), some (.ref (ad g 225)), some (.ref (ad g 226)), some (.ref (ad g 227)), none, none, none, none]) 4 (by decide +kernel) (Nat.le_of_ble_eq_true rfl) rfl (fun X F r => ?_)
  have hJ0 := hJ
  obtain ⟨P, pn, hCA, hAI, hGP⟩ := hJ0
  obtain ⟨t, ht, hi0⟩ := hAI.1
  have hi : Inv S t := hi0
  refine g_aload_n (pc := 0) F dL_isSo_0 rfl ?_
  refine g_aload_n (pc := 1) F dL_isSo_1 rfl ?_
  refine g_aload_n (pc := 2) F dL_isSo_2 rfl ?_
  refine g_aload_n (pc := 3) F dL_isSo_3 rfl ?_
  refine g_callS (pc := 4) (rf2 := 4) (rl2 := 86) F cs_L_85 (by rfl) (by rfl) (Nat.le_of_ble_eq_true (by rfl)) (by decide) dL_isSo_4 (c_L_areClocks _ g M S hJ) (fun v M2 hz => ?_)
  obtain ⟨rfl, rfl⟩ := hz
  refine g_if_eq (pc := 7) (tgt := 48) F dL_isSo_7 (by decide) (fun c7 => ?_) (fun c7 => ?_)
  · exact absurd c7 (by decide)
  · refine g_aload_n (pc := 10) F dL_isSo_10 rfl ?_
    refine g_aload_n (pc := 11) F dL_isSo_11 rfl ?_
    refine g_aload_n (pc := 12) F dL_isSo_12 rfl ?_
    refine g_aload_n (pc := 13) F dL_isSo_13 rfl ?_
    refine g_aload (pc := 14) F dL_isSo_14 rfl ?_
    refine g_callS (pc := 16) (rf2 := 4) (rl2 := 88) F cs_L_89 (by rfl) (by rfl) (Nat.le_of_ble_eq_true (by rfl)) (by decide) dL_isSo_16 (c_L_areGroups _ g M S hJ) (fun v M2 hz => ?_)
    obtain ⟨rfl, rfl⟩ := hz
    refine g_if_eq (pc := 19) (tgt := 48) F dL_isSo_19 (by decide) (fun c19 => ?_) (fun c19 => ?_)
    · exact absurd c19 (by decide)
    · refine g_aload_n (pc := 22) F dL_isSo_22 rfl ?_
      refine g_iconst (pc := 23) (v := -1) F dL_isSo_23 (by decide) ?_
      refine g_callV (pc := 24) (rf2 := 2) (rl2 := 47) F cs_L_93 kd0 rfl (by decide) (by rfl) (by rfl) (Nat.le_of_ble_eq_true (by rfl)) (by decide) dL_isSo_24 (w_next _ g M S S P pn hCA hAI _) (fun v M2 hz => ?_)
      obtain ⟨rfl, rfl⟩ := hz
      rw [show oNext S (-1) = -1000001 from if_pos (by decide)]
      refine g_ldc (pc := 27) F wk_L_41 dL_isSo_27 ?_
      refine g_icmp_ne (pc := 29) (tgt := 48) F dL_isSo_29 (by decide) (fun c29 => ?_) (fun c29 => ?_)
      · exact absurd rfl c29
      · refine g_aload_n (pc := 32) F dL_isSo_32 rfl ?_
        refine g_aload_n (pc := 33) F dL_isSo_33 rfl ?_
        refine g_iconst (pc := 34) (v := 0) F dL_isSo_34 (by decide) ?_
        refine g_gld (pc := 35) (j := 0) F rfl (by decide) dL_isSo_35 ?_
        refine g_callV (pc := 36) (rf2 := 2) (rl2 := 47) F cs_L_93 kd0 rfl (by decide) (by rfl) (by rfl) (Nat.le_of_ble_eq_true (by rfl)) (by decide) dL_isSo_36 (w_next _ g M S S P pn hCA hAI _) (fun v M2 hz => ?_)
        obtain ⟨rfl, rfl⟩ := hz
        rw [next_no hi]
        refine g_ldc (pc := 39) F wk_L_78 dL_isSo_39 ?_
        refine g_icmp_ne (pc := 41) (tgt := 48) F dL_isSo_41 (by decide) (fun c41 => ?_) (fun c41 => ?_)
        · exact absurd rfl c41
        · refine g_iconst (pc := 44) (v := 1) F dL_isSo_44 (by decide) ?_
          refine g_goto (pc := 45) (tgt := 49) F dL_isSo_45 (by decide) ?_
          refine g_istore (pc := 49) F dL_isSo_49 (by decide) rfl ?_
          refine g_iconst (pc := 51) (v := 0) F dL_isSo_51 (by decide) ?_
          refine g_istore (pc := 52) F dL_isSo_52 (by decide) rfl ?_
          refine g_iconst (pc := 54) (v := 0) F dL_isSo_54 (by decide) ?_
          refine g_istore (pc := 55) F dL_isSo_55 (by decide) rfl ?_
          exact G.sub [some (.ref (ad g 0)), some (.ref (ad g 224)), some (.ref (ad g 225)), some (.ref (ad g 226)), some (.ref (ad g 227)), some (.int 1), some (.int (nI 0)), some (.int (nI 0)), none] ⟨rfl, rfl, rfl, rfl, rfl, rfl, rfl, rfl, trivial⟩ (so_57 F r P pn hCA hAI t hi (cn S) 0 0 (by omega) (fun j _ _ => Nat.zero_le _))
