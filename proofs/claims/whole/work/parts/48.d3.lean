/-! means and what passengers gained: the class -/
theorem i_pos_ne {x : Int32} (h : 0 < x) : x ≠ 0 := fun e => by
  rw [e] at h
  exact absurd h (by decide)
theorem meanF_ok1 {a b : Int32} (hb : 0 < b) : vf_n64 (FP.ddiv (FP.i2d a) (FP.i2d b)) := ddiv_ok a (i_pos_ne hb)
set_option maxHeartbeats 4000000 in
set_option maxRecDepth 100000 in
theorem c_X1_meanOf (l : Launch) (g : Gm) (M : Mem) (q : Nat) (hk : kd q = 1) (k : Int32) (hm : 0 < M q 0) (hs : 0 < M q 1) : Cn l yX1_meanOf cX1_meanOf 2 (some .double) 0 0 g [.ref (ad g q), .int k] M (fun v M2 => v = some (.double (meanF k (M q 0) (M q 1) (M q 2) (M q 3))) ∧ M2 = M) := by
  refine Cn.intro (lv0 := [some (.ref (ad g q)), some (.int k)]) 0 (by decide +kernel) (Nat.le_of_ble_eq_true rfl) rfl (fun X F r => ?_)
  refine g_aload_n (pc := 0) F dX1_meanOf_0 rfl ?_
  refine g_geti (pc := 1) F fl_X1_7 (by assumption) rfl dX1_meanOf_1 ?_
  refine g_if_le (pc := 4) (tgt := 14) F dX1_meanOf_4 (by decide) (fun c4 => ?_) (fun c4 => ?_)
  · exact absurd hm (Int32.not_lt.mpr c4)
  · refine g_aload_n (pc := 7) F dX1_meanOf_7 rfl ?_
    refine g_geti (pc := 8) F fl_X1_13 (by assumption) rfl dX1_meanOf_8 ?_
    refine g_if_gt (pc := 11) (tgt := 16) F dX1_meanOf_11 (by decide) (fun c11 => ?_) (fun c11 => ?_)
    · refine g_iload_n (pc := 16) F dX1_meanOf_16 rfl ?_
      refine g_if_ne (pc := 17) (tgt := 32) F dX1_meanOf_17 (by decide) (fun c17 => ?_) (fun c17 => ?_)
      · refine g_iload_n (pc := 32) F dX1_meanOf_32 rfl ?_
        refine g_iconst (pc := 33) (v := 1) F dX1_meanOf_33 (by decide) ?_
        refine g_icmp_ne (pc := 34) (tgt := 44) F dX1_meanOf_34 (by decide) (fun c34 => ?_) (fun c34 => ?_)
        · refine g_aload_n (pc := 44) F dX1_meanOf_44 rfl ?_
          refine g_geti (pc := 45) F fl_X1_19 (by assumption) rfl dX1_meanOf_45 ?_
          refine g_i2d (pc := 48) F dX1_meanOf_48 ?_
          refine g_aload_n (pc := 49) F dX1_meanOf_49 rfl ?_
          refine g_geti (pc := 50) F fl_X1_13 (by assumption) rfl dX1_meanOf_50 ?_
          refine g_i2d (pc := 53) F dX1_meanOf_53 ?_
          refine g_ddiv (pc := 54) F (meanF_ok1 hs) dX1_meanOf_54 ?_
          refine g_dret (pc := 55) F r dX1_meanOf_55 ?_
          unfold meanF
          rw [if_neg c17, if_neg c34]
          exact ⟨rfl, rfl⟩
        · refine g_aload_n (pc := 37) F dX1_meanOf_37 rfl ?_
          refine g_geti (pc := 38) F fl_X1_16 (by assumption) rfl dX1_meanOf_38 ?_
          refine g_goto (pc := 41) (tgt := 48) F dX1_meanOf_41 (by decide) ?_
          refine g_i2d (pc := 48) F dX1_meanOf_48 ?_
          refine g_aload_n (pc := 49) F dX1_meanOf_49 rfl ?_
          refine g_geti (pc := 50) F fl_X1_13 (by assumption) rfl dX1_meanOf_50 ?_
          refine g_i2d (pc := 53) F dX1_meanOf_53 ?_
          refine g_ddiv (pc := 54) F (meanF_ok1 hs) dX1_meanOf_54 ?_
          refine g_dret (pc := 55) F r dX1_meanOf_55 ?_
          unfold meanF
          rw [if_neg c17, if_pos c34]
          exact ⟨rfl, rfl⟩
      · refine g_aload_n (pc := 20) F dX1_meanOf_20 rfl ?_
        refine g_geti (pc := 21) F fl_X1_13 (by assumption) rfl dX1_meanOf_21 ?_
        refine g_i2d (pc := 24) F dX1_meanOf_24 ?_
        refine g_aload_n (pc := 25) F dX1_meanOf_25 rfl ?_
        refine g_geti (pc := 26) F fl_X1_7 (by assumption) rfl dX1_meanOf_26 ?_
        refine g_i2d (pc := 29) F dX1_meanOf_29 ?_
        refine g_ddiv (pc := 30) F (meanF_ok1 hm) dX1_meanOf_30 ?_
        refine g_dret (pc := 31) F r dX1_meanOf_31 ?_
        unfold meanF
        rw [if_pos c17]
        exact ⟨rfl, rfl⟩
    · exact absurd hs c11

def dueF (S : SV) : Nat → UInt64
  | 0 => FP.dconst0
  | i + 1 => FP.dadd (dueF S i) (FP.dmul (FP.i2d (cw S i 12)) (lawF (cw S i) 2))
theorem due_term {S : SV} {t : Nat} (hi : Inv S t) {i : Nat} (h : i < cn S) : ND 191 (FP.dmul (FP.i2d (cw S i 12)) (lawF (cw S i) 2)) := by
  obtain ⟨la, a, b, c, d, p, gp, ag, sm, sq, hL, -⟩ := hi.2.2.2.2.2.1 i h
  obtain ⟨c', e', n1, n2, n3⟩ := lawF_nr hL 2
  exact (nd_mul (nd_i2d (cw S i 12)) n1 n2 n3 (by decide)).mono (by decide)
theorem dueF_nd {S : SV} {t : Nat} (hi : Inv S t) : ∀ i, i ≤ cn S → ND (191 + 52 * (i : Int)) (dueF S i) := by
  have hn := hi.cn_le.1
  intro i
  induction i with
  | zero => exact fun _ => nd_0 _
  | succ i ih =>
    intro h
    have h1 := ih (by omega)
    have h2 := (due_term hi (i := i) (by omega)).mono (C := 191 + 52 * (i : Int)) (by omega)
    exact (nd_add h1 h2 (by omega) (by omega)).mono (by omega)
/-- what the class's tally of a round says -/
theorem rnd_row {M : Mem} {c : Nat} {w : Nat → Int32} (h : CR M c w) (k : Int32) : meanF k (M (c + 3) 0) (M (c + 3) 1) (M (c + 3) 2) (M (c + 3) 3) = lawF w k := by
  have h13 := h.2.2.2.2.2.2.2.2.2.2.2.2.2
  unfold lawF
  rw [h13 0 (by decide), h13 1 (by decide), h13 2 (by decide), h13 3 (by decide)]
theorem rnd_pos {M : Mem} {c t : Nat} {w : Nat → Int32} (h : CR M c w) (hC : CI w t) : 0 < M (c + 3) 0 ∧ 0 < M (c + 3) 1 := by
  have h13 := h.2.2.2.2.2.2.2.2.2.2.2.2.2
  obtain ⟨la, a, b, cc, d, p, gp, ag, sm, sq, hL, -⟩ := hC
  have hP := NP_bound (la := la) (b := b) (c := cc) (d := d) (hL.2.2.2.2.2.2.2.2.1)
  have hS := LSu_rng hL
  rw [h13 0 (by decide), h13 1 (by decide)]
  show 0 < rnd (w 0) (fun j => w (1 + j)) 0 ∧ 0 < rnd (w 0) (fun j => w (1 + j)) 1
  rw [rnd_0 hL, (rnd_sums hL).1, nI_lt0 (by omega), nI_lt0 (by omega)]
  omega
set_option maxHeartbeats 4000000 in
set_option maxRecDepth 100000 in
theorem c_X3_waitDueToAll (l : Launch) (g : Gm) (M : Mem) (h : Nat) (hk : kd h = 3) (S : SV) (t : Nat) (hr : HR M h S) (hi : Inv S t) : Cn l yX3_waitDueToAll cX3_waitDueToAll 4 (some .double) 1 21 g [.ref (ad g h)] M (fun v M2 => v = some (.double (dueF S (cn S))) ∧ M2 = M) := by
  refine Cn.intro (lv0 := [some (.ref (ad g h)), none, none, none]) 3 (by decide +kernel) (Nat.le_of_ble_eq_true rfl) rfl (fun X F r => ?_)
  obtain ⟨hk1, hk2, hkC, hkG⟩ := kd_hall hk
  have hn := hi.cn_le
  have hm := hi.gn_le
  have L : ∀ (n i : Nat) (x : Int32), i + n = cn S → x = nI i → G X g 4 M 4 [some (.ref (ad g h)), some (.double (dueF S i)), none, some (.int x)] [] := by
    intro n
    induction n with
    | zero =>
      intro i x hin hx
      obtain rfl : i = cn S := by omega
      refine g_iload_n (pc := 4) F dX3_waitDueToAll_4 rfl ?_
      refine g_aload_n (pc := 5) F dX3_waitDueToAll_5 rfl ?_
      refine g_geti (pc := 6) F fl_X3_29 (by assumption) rfl dX3_waitDueToAll_6 ?_
      refine g_icmp_ge (pc := 9) (tgt := 54) F dX3_waitDueToAll_9 (by decide) (fun c9 => ?_) (fun c9 => ?_)
      · refine g_dload_n (pc := 54) F dX3_waitDueToAll_54 rfl ?_
        refine g_dret (pc := 55) F r dX3_waitDueToAll_55 ?_
        exact ⟨rfl, rfl⟩
      · exact absurd (by rw [hr.1, hn.2, hx]; exact nI_le (by omega) (by omega)) c9
    | succ n ih =>
      intro i x hin hx
      have hC := hr.2.2.2.2.1 i (by omega)
      have hkc := hkC i (by omega)
      refine g_iload_n (pc := 4) F dX3_waitDueToAll_4 rfl ?_
      refine g_aload_n (pc := 5) F dX3_waitDueToAll_5 rfl ?_
      refine g_geti (pc := 6) F fl_X3_29 (by assumption) rfl dX3_waitDueToAll_6 ?_
      refine g_icmp_ge (pc := 9) (tgt := 54) F dX3_waitDueToAll_9 (by decide) (fun c9 => ?_) (fun c9 => ?_)
      · exact absurd c9 (by rw [hr.1, hn.2, hx]; exact nI_ge (by omega) (by omega))
      · refine g_iload_n (pc := 12) F dX3_waitDueToAll_12 rfl ?_
        refine g_aload_n (pc := 13) F dX3_waitDueToAll_13 rfl ?_
        refine g_getr (pc := 14) F fl_X3_11 (by assumption) rfl dX3_waitDueToAll_14 ?_
        refine g_alenK (pc := 17) F (by assumption) (v := 6) (by decide) dX3_waitDueToAll_17 ?_
        refine g_icmp_ge (pc := 18) (tgt := 54) F dX3_waitDueToAll_18 (by decide) (fun c18 => ?_) (fun c18 => ?_)
        · exact absurd c18 (by rw [hx]; exact nI_ge (a := i) (b := 6) (by omega) (by decide))
        · refine g_dload_n (pc := 21) F dX3_waitDueToAll_21 rfl ?_
          refine g_aload_n (pc := 22) F dX3_waitDueToAll_22 rfl ?_
          refine g_getr (pc := 23) F fl_X3_11 (by assumption) rfl dX3_waitDueToAll_23 ?_
          refine g_iload_n (pc := 26) F dX3_waitDueToAll_26 rfl ?_
          refine g_aaldK (pc := 27) (q := i) (r := h + 3 + 4 * i) F hk1 hx (by omega) (by omega) dX3_waitDueToAll_27 ?_
          refine g_geti (pc := 28) F fl_X3_107 (by assumption) rfl dX3_waitDueToAll_28 ?_
          refine g_i2d (pc := 31) F dX3_waitDueToAll_31 ?_
          refine g_aload_n (pc := 32) F dX3_waitDueToAll_32 rfl ?_
          refine g_getr (pc := 33) F fl_X3_11 (by assumption) rfl dX3_waitDueToAll_33 ?_
          refine g_iload_n (pc := 36) F dX3_waitDueToAll_36 rfl ?_
          refine g_aaldK (pc := 37) (q := i) (r := h + 3 + 4 * i) F hk1 hx (by omega) (by omega) dX3_waitDueToAll_37 ?_
          refine g_getr (pc := 38) F fl_X3_71 (by assumption) rfl dX3_waitDueToAll_38 ?_
          refine g_iconst (pc := 41) (v := 2) F dX3_waitDueToAll_41 (by decide) ?_
          obtain ⟨hk1', hk2', hk3'⟩ := kd_clk hkc
          have hrp := rnd_pos hC (hi.2.2.2.2.2.1 i (by omega))
          refine g_callV (pc := 42) (rf2 := 0) (rl2 := 0) F cs_X3_145 hk3' rfl (by decide) (by rfl) (by rfl) (Nat.le_of_ble_eq_true (by rfl)) (by decide) dX3_waitDueToAll_42 (c_X1_meanOf _ g _ (h + 3 + 4 * i + 3) hk3' 2 hrp.1 hrp.2) (fun v M2 hz => ?_)
          obtain ⟨rfl, h3⟩ := hz
          rw [h3, rnd_row hC, hC.2.2.2.2.2.1]
          refine g_dmul (pc := 45) F (n64_of (due_term hi (i := i) (by omega)).ne) dX3_waitDueToAll_45 ?_
          refine g_dadd (pc := 46) F (n64_of (dueF_nd hi (i + 1) (by omega)).ne) dX3_waitDueToAll_46 ?_
          refine g_dstore_n (pc := 47) F dX3_waitDueToAll_47 (by decide) rfl ?_
          refine g_iinc (pc := 48) F dX3_waitDueToAll_48 rfl rfl (by decide) rfl ?_
          refine g_goto (pc := 51) (tgt := 4) F dX3_waitDueToAll_51 (by decide) ?_
          refine G.sub [some (.ref (ad g h)), some (.double (dueF S (i + 1))), none, some (.int (x + Int32.ofInt 1))] ⟨rfl, rfl, rfl, trivial⟩ (ih (i + 1) _ (by omega) (by rw [hx]; exact nI_1 i))
  refine g_dconst0 (pc := 0) F dX3_waitDueToAll_0 ?_
  refine g_dstore_n (pc := 1) F dX3_waitDueToAll_1 (by decide) rfl ?_
  refine g_iconst (pc := 2) (v := 0) F dX3_waitDueToAll_2 (by decide) ?_
  refine g_istore_n (pc := 3) F dX3_waitDueToAll_3 (by decide) rfl ?_
  exact L (cn S) 0 _ (by omega) nI_0.symm

def oMean (S : SV) (x k : Int32) : Int64 := if inC S x ∧ (0 ≤ k ∧ k ≤ 5) then (if 3 ≤ k then (lawF (cw S (ixN x)) (k - 3)).toInt64 else if cw S (ixN x) 8 = 0 then -1000004 else (meanF k (cw S (ixN x) 8) (cw S (ixN x) 9) (cw S (ixN x) 10) ((cw S (ixN x) 10 + cw S (ixN x) 9) / 2)).toInt64) else -1000001
def oLonger (S : SV) : Int64 := (FP.dsub (FP.i2d (sumW S 63 12 (cn S))) (dueF S (cn S))).toInt64
theorem lng_nd {S : SV} {t : Nat} (hi : Inv S t) : ND 900 (FP.dsub (FP.i2d (sumW S 63 12 (cn S))) (dueF S (cn S))) := by
  have hn := hi.cn_le.1
  have h1 := dueF_nd hi (cn S) (Nat.le_refl _)
  have h2 := (nd_i2d (sumW S 63 12 (cn S))).mono (C := 191 + 52 * (cn S : Int)) (by omega)
  exact (nd_sub h2 h1 (by omega) (by omega)).mono (by omega)
theorem law_nd {w : Nat → Int32} {t : Nat} (hC : CI w t) (k : Int32) : ND 900 (lawF w k) := by
  obtain ⟨la, a, b, cc, d, p, gp, ag, sm, sq, hL, -⟩ := hC
  obtain ⟨c', e', n1, n2, n3⟩ := lawF_nr hL k
  exact Or.inr ⟨_, c', e', n1, by omega, by omega⟩
/-- the tally of the gaps told, when there is one -/
theorem told_nd {w : Nat → Int32} {t : Nat} (hC : CI w t) (hT : t ≤ 100200) (h8 : ¬ w 8 = 0) (k : Int32) : ND 900 (meanF k (w 8) (w 9) (w 10) ((w 10 + w 9) / 2)) ∧ 0 < w 8 ∧ 0 < w 9 := by
  obtain ⟨la, a, b, cc, d, p, gp, ag, sm, sq, hL, h5, hp, h6, g1, g2, h7, ha, h9, hs, h10, hq, kk, k8, k1, k2⟩ := hC
  have hk : 1 ≤ kk := by
    rcases Nat.eq_zero_or_pos kk with e | e
    · exact absurd (by rw [k8, e]; rfl) h8
    · exact e
  have e2 : (w 10 + w 9) / 2 = nI ((sq + sm) / 2) := by rw [h10, h9, nI_add, nI2, idiv_nI (by omega) (by decide) (by decide)]
  obtain ⟨c', e', n1, n2, n3⟩ := meanF_nr k (m := kk) (s := sm) (q := sq) (w := (sq + sm) / 2) hk (by omega) (by omega) (by omega) (by omega) (by omega) (by omega) (by omega)
  rw [e2, k8, h9, h10]
  exact ⟨Or.inr ⟨_, c', e', n1, by omega, by omega⟩, (nI_lt0 (by omega)).mpr hk, (nI_lt0 (by omega)).mpr (by omega)⟩
set_option maxHeartbeats 4000000 in
set_option maxRecDepth 100000 in
theorem c_X7_mean (l : Launch) (g : Gm) (M : Mem) (A : AS) (hA : CA M A) (hI : AI A) (x w : Int32) : Cn l yX7_mean cX7_mean 4 (some .long) 1 28 g [.ref (ad g 0), .int x, .int w] M (fun v M2 => v = some (.long (oMean A.1 x w)) ∧ M2 = M) := by
  refine Cn.intro (lv0 := [some (.ref (ad g 0)), some (.int x), some (.int w), none]) 1 (by decide +kernel) (Nat.le_of_ble_eq_true rfl) rfl (fun X F r => ?_)
  obtain ⟨sg, hA1, hA2, hA3, hA4, hA5, hA6⟩ := hA
  obtain ⟨t, ht, hi⟩ := hI.1
  have k0 := kd0
  have k63 := kd63
  have k1 := kd1
  have hn := hi.cn_le
  have hm := hi.gn_le
  have k32 := kd32
  have k220 := kd220
  refine g_aload_n (pc := 0) F dX7_mean_0 rfl ?_
  refine g_getr (pc := 1) F fl_X7_12 (by assumption) rfl dX7_mean_1 ?_
  refine g_iload_n (pc := 4) F dX7_mean_4 rfl ?_
  refine g_callV (pc := 5) (rf2 := 0) (rl2 := 0) F cs_X7_73 k1 rfl (by decide) (by rfl) (by rfl) (Nat.le_of_ble_eq_true (by rfl)) (by decide) dX7_mean_5 (c_X3_clockAt _ g _ 1 k1 (cn A.1) hn.1 (hA1.1.trans hn.2) x) (fun v M2 hz => ?_)
  obtain ⟨h2, hz⟩ := hz
  rw [h2]
  rcases hz with ⟨i, hi6, hx, rfl⟩ | ⟨hno, rfl⟩
  · have hkc : kd (1 + 3 + 4 * i) = 0 := (kd_hall k1).2.2.1 i (by omega)
    obtain ⟨hk1', hk2', hk3'⟩ := kd_clk hkc
    have hC := hA1.2.2.2.2.1 i hi6
    have hCI := hi.2.2.2.2.2.1 i hi6
    have hrp := rnd_pos hC hCI
    refine g_astore_n (pc := 8) F dX7_mean_8 (by decide) rfl ?_
    refine g_aload_n (pc := 9) F dX7_mean_9 rfl ?_
    refine g_ifnull (pc := 10) F dX7_mean_10 ?_
    refine g_iload_n (pc := 13) F dX7_mean_13 rfl ?_
    refine g_if_lt (pc := 14) (tgt := 22) F dX7_mean_14 (by decide) (fun c14 => ?_) (fun c14 => ?_)
    · refine g_ldc2 (pc := 22) F wk_X7_83 dX7_mean_22 ?_
      refine g_lret (pc := 25) F r dX7_mean_25 ?_
      have e : oMean A.1 x w = -1000001 := if_neg (fun q => Int32.not_lt.mpr q.2.1 c14)
      rw [e]
      exact ⟨rfl, rfl⟩
    · refine g_iload_n (pc := 17) F dX7_mean_17 rfl ?_
      refine g_iconst (pc := 18) (v := 5) F dX7_mean_18 (by decide) ?_
      refine g_icmp_le (pc := 19) (tgt := 26) F dX7_mean_19 (by decide) (fun c19 => ?_) (fun c19 => ?_)
      · refine g_iload_n (pc := 26) F dX7_mean_26 rfl ?_
        refine g_iconst (pc := 27) (v := 3) F dX7_mean_27 (by decide) ?_
        refine g_icmp_lt (pc := 28) (tgt := 45) F dX7_mean_28 (by decide) (fun c28 => ?_) (fun c28 => ?_)
        · refine g_aload_n (pc := 45) F dX7_mean_45 rfl ?_
          refine g_getr (pc := 46) F fl_X7_99 (by assumption) rfl dX7_mean_46 ?_
          refine g_geti (pc := 49) F fl_X7_102 (by assumption) rfl dX7_mean_49 ?_
          refine g_if_ne (pc := 52) (tgt := 59) F dX7_mean_52 (by decide) (fun c52 => ?_) (fun c52 => ?_)
          · have c52' : ¬ cw A.1 i 8 = 0 := fun e => c52 (hC.2.2.2.2.2.2.2.2.1.trans e)
            obtain ⟨tn1, tn2, tn3⟩ := told_nd hCI hi.2.2.2.1 c52' w
            have e0 : M (1 + 3 + 4 * i + 2) 0 = cw A.1 i 8 := hC.2.2.2.2.2.2.2.2.1
            have e1 : M (1 + 3 + 4 * i + 2) 1 = cw A.1 i 9 := hC.2.2.2.2.2.2.2.2.2.1
            have e2 : M (1 + 3 + 4 * i + 2) 2 = cw A.1 i 10 := hC.2.2.2.2.2.2.2.2.2.2.1
            have e3 : M (1 + 3 + 4 * i + 2) 3 = (cw A.1 i 10 + cw A.1 i 9) / 2 := hC.2.2.2.2.2.2.2.2.2.2.2.1
            refine g_aload_n (pc := 59) F dX7_mean_59 rfl ?_
            refine g_getr (pc := 60) F fl_X7_99 (by assumption) rfl dX7_mean_60 ?_
            refine g_iload_n (pc := 63) F dX7_mean_63 rfl ?_
            refine g_callV (pc := 64) (rf2 := 0) (rl2 := 0) F cs_X7_89 hk2' rfl (by decide) (by rfl) (by rfl) (Nat.le_of_ble_eq_true (by rfl)) (by decide) dX7_mean_64 (c_X1_meanOf _ g _ (1 + 3 + 4 * i + 2) hk2' w (by rw [e0]; exact tn2) (by rw [e1]; exact tn3)) (fun v M2 hz => ?_)
            obtain ⟨rfl, h3⟩ := hz
            rw [h3]
            rw [e0, e1, e2, e3]
            refine g_callS (pc := 67) (rf2 := 0) (rl2 := 0) F cs_X7_95 (by rfl) (by rfl) (Nat.le_of_ble_eq_true (by rfl)) (by decide) dX7_mean_67 (c_X7_bitsOf _ g _ _ tn1) (fun v M2 hz => ?_)
            obtain ⟨rfl, h4⟩ := hz
            rw [h4]
            refine g_lret (pc := 70) F r dX7_mean_70 ?_
            have e : oMean A.1 x w = (meanF w (cw A.1 i 8) (cw A.1 i 9) (cw A.1 i 10) ((cw A.1 i 10 + cw A.1 i 9) / 2)).toInt64 := by
              unfold oMean
              rw [if_pos ⟨by rw [hx]; exact inC_of hi hi6, Int32.not_lt.mp c14, c19⟩, if_neg (Int32.not_le.mpr c28), hx, ixN_nI (by omega), if_neg c52']
            rw [e]
            exact ⟨rfl, rfl⟩
          · have c52' : cw A.1 i 8 = 0 := hC.2.2.2.2.2.2.2.2.1.symm.trans c52
            refine g_ldc2 (pc := 55) F wk_X7_106 dX7_mean_55 ?_
            refine g_lret (pc := 58) F r dX7_mean_58 ?_
            have e : oMean A.1 x w = -1000004 := by
              unfold oMean
              rw [if_pos ⟨by rw [hx]; exact inC_of hi hi6, Int32.not_lt.mp c14, c19⟩, if_neg (Int32.not_le.mpr c28), hx, ixN_nI (by omega), if_pos c52']
            rw [e]
            exact ⟨rfl, rfl⟩
        · refine g_aload_n (pc := 31) F dX7_mean_31 rfl ?_
          refine g_getr (pc := 32) F fl_X7_85 (by assumption) rfl dX7_mean_32 ?_
          refine g_iload_n (pc := 35) F dX7_mean_35 rfl ?_
          refine g_iconst (pc := 36) (v := 3) F dX7_mean_36 (by decide) ?_
          refine g_isub (pc := 37) F dX7_mean_37 ?_
          refine g_callV (pc := 38) (rf2 := 0) (rl2 := 0) F cs_X7_89 hk3' rfl (by decide) (by rfl) (by rfl) (Nat.le_of_ble_eq_true (by rfl)) (by decide) dX7_mean_38 (c_X1_meanOf _ g _ (1 + 3 + 4 * i + 3) hk3' (w - 3) hrp.1 hrp.2) (fun v M2 hz => ?_)
          obtain ⟨rfl, h3⟩ := hz
          rw [h3]
          rw [rnd_row hC]
          refine g_callS (pc := 41) (rf2 := 0) (rl2 := 0) F cs_X7_95 (by rfl) (by rfl) (Nat.le_of_ble_eq_true (by rfl)) (by decide) dX7_mean_41 (c_X7_bitsOf _ g _ _ (law_nd hCI _)) (fun v M2 hz => ?_)
          obtain ⟨rfl, h4⟩ := hz
          rw [h4]
          refine g_lret (pc := 44) F r dX7_mean_44 ?_
          have e : oMean A.1 x w = (lawF (cw A.1 i) (w - 3)).toInt64 := by
            unfold oMean
            rw [if_pos ⟨by rw [hx]; exact inC_of hi hi6, Int32.not_lt.mp c14, c19⟩, if_pos (Int32.not_lt.mp c28), hx, ixN_nI (by omega)]
          rw [e]
          exact ⟨rfl, rfl⟩
      · refine g_ldc2 (pc := 22) F wk_X7_83 dX7_mean_22 ?_
        refine g_lret (pc := 25) F r dX7_mean_25 ?_
        have e : oMean A.1 x w = -1000001 := if_neg (fun q => c19 q.2.2)
        rw [e]
        exact ⟨rfl, rfl⟩
  · refine g_astore_nN (pc := 8) F dX7_mean_8 (by decide) rfl ?_
    refine g_aload_nN (pc := 9) F dX7_mean_9 rfl ?_
    refine g_ifnullN (pc := 10) (tgt := 22) F dX7_mean_10 (by decide) ?_
    refine g_ldc2 (pc := 22) F wk_X7_83 dX7_mean_22 ?_
    refine g_lret (pc := 25) F r dX7_mean_25 ?_
    have e : oMean A.1 x w = -1000001 := if_neg (fun q => inC_not hi hno q.1)
    rw [e]
    exact ⟨rfl, rfl⟩

set_option maxHeartbeats 4000000 in
set_option maxRecDepth 100000 in
theorem c_X7_longer (l : Launch) (g : Gm) (M : Mem) (A : AS) (hA : CA M A) (hI : AI A) : Cn l yX7_longer cX7_longer 1 (some .long) 3 65 g [.ref (ad g 0)] M (fun v M2 => v = some (.long (oLonger A.1)) ∧ M2 = M) := by
  refine Cn.intro (lv0 := [some (.ref (ad g 0))]) 0 (by decide +kernel) (Nat.le_of_ble_eq_true rfl) rfl (fun X F r => ?_)
  obtain ⟨sg, hA1, hA2, hA3, hA4, hA5, hA6⟩ := hA
  obtain ⟨t, ht, hi⟩ := hI.1
  have k0 := kd0
  have k63 := kd63
  have k1 := kd1
  have hn := hi.cn_le
  have hm := hi.gn_le
  have k32 := kd32
  have k220 := kd220
  refine g_aload_n (pc := 0) F dX7_longer_0 rfl ?_
  refine g_getr (pc := 1) F fl_X7_12 (by assumption) rfl dX7_longer_1 ?_
  refine g_bipush (pc := 4) (v := 63) F dX7_longer_4 (by decide) ?_
  refine g_bipush (pc := 6) (v := 12) F dX7_longer_6 (by decide) ?_
  refine g_stk (st' := [.int (nI 12), .int 63, .ref (ad g 1)]) (by rfl) ?_
  refine g_callV (pc := 8) (rf2 := 2) (rl2 := 41) F cs_X7_128 k1 rfl (by decide) (by rfl) (by rfl) (Nat.le_of_ble_eq_true (by rfl)) (by decide) dX7_longer_8 (c_X3_sumOver _ g _ 1 k1 A.1 t hA1 hi 63 12 (by decide)) (fun v M2 hz => ?_)
  obtain ⟨rfl, h2⟩ := hz
  rw [h2]
  refine g_i2d (pc := 11) F dX7_longer_11 ?_
  refine g_aload_n (pc := 12) F dX7_longer_12 rfl ?_
  refine g_getr (pc := 13) F fl_X7_12 (by assumption) rfl dX7_longer_13 ?_
  refine g_callV (pc := 16) (rf2 := 1) (rl2 := 21) F cs_X7_151 k1 rfl (by decide) (by rfl) (by rfl) (Nat.le_of_ble_eq_true (by rfl)) (by decide) dX7_longer_16 (c_X3_waitDueToAll _ g _ 1 k1 A.1 t hA1 hi) (fun v M2 hz => ?_)
  obtain ⟨rfl, h3⟩ := hz
  rw [h3]
  refine g_dsub (pc := 19) F (n64_of (lng_nd hi).ne) dX7_longer_19 ?_
  refine g_callS (pc := 20) (rf2 := 0) (rl2 := 0) F cs_X7_95 (by rfl) (by rfl) (Nat.le_of_ble_eq_true (by rfl)) (by decide) dX7_longer_20 (c_X7_bitsOf _ g _ _ (lng_nd hi)) (fun v M2 hz => ?_)
  obtain ⟨rfl, h4⟩ := hz
  rw [h4]
  refine g_lret (pc := 23) F r dX7_longer_23 ?_
  exact ⟨rfl, rfl⟩

