/-! what a hall tells -/
/-- the numbers of a clock as it tells them -/
def wv (w : Nat → Int32) (q : Nat) : Int32 := match q with
  | 5 => w 6
  | 6 => w 7
  | 7 => w 6 - w 7
  | 10 => if w 8 = 0 then -1000004 else w 11
  | 11 => w 12
  | 12 => w 13
  | 13 => w 14
  | q => w q
theorem i_sub_sub (a b : Int32) : a - (a - b) = b := by
  rw [Int32.sub_eq_iff_eq_add, Int32.add_comm, Int32.sub_add_cancel]
theorem tellV_wv {M : Mem} {c : Nat} {w : Nat → Int32} (h : CR M c w) (q : Nat) (hq : q < 14) : tellV M c q = wv w q := by
  obtain ⟨h0, h1, h2, h3, h4, h5, h6, h7, h8, h9, h10, h11, h12, h13⟩ := h
  match q, hq with
  | 0, _ => exact h0
  | 1, _ => exact h1 0 (by decide)
  | 2, _ => exact h1 1 (by decide)
  | 3, _ => exact h1 2 (by decide)
  | 4, _ => exact h1 3 (by decide)
  | 5, _ => exact h3
  | 6, _ =>
    show M c 3 - M c 4 = w 7
    rw [h3, h4, i_sub_sub]
  | 7, _ => exact h4
  | 8, _ => exact h8
  | 9, _ => exact h9
  | 10, _ =>
    show (if M (c + 2) 0 = 0 then (-1000004 : Int32) else M (c + 2) 4) = (if w 8 = 0 then -1000004 else w 11)
    rw [h8, h12]
  | 11, _ => exact h5
  | 12, _ => exact h6
  | 13, _ => exact h7
def sumW (S : SV) (z : Int32) (q : Nat) : Nat → Int32
  | 0 => 0
  | i + 1 => if isIn z i then sumW S z q i + wv (cw S i) q else sumW S z q i
abbrev restW (S : SV) (i : Nat) : Int32 := cw S i 6 - cw S i 7
def leastW (S : SV) (z : Int32) : Nat → Int32
  | 0 => -1000004
  | i + 1 => if isIn z i ∧ (leastW S z i = -1000004 ∨ restW S i < leastW S z i) then restW S i else leastW S z i
def aheadW (S : SV) (c : Nat) : Nat → Int32
  | 0 => 0
  | i + 1 => if restW S i < restW S c ∨ (restW S i = restW S c ∧ i < c) then aheadW S c i + 1 else aheadW S c i
/-- the clock in a place, from the clock cn S - k on -/
def nextW (S : SV) (p : Int32) : Nat → Int32
  | 0 => -1000004
  | k + 1 => if aheadW S (cn S - (k + 1)) (cn S) = p then nI (cn S - (k + 1)) else nextW S p k
def aboutW (S : SV) : Nat → Int32
  | 0 => 0
  | i + 1 => if restW S i = 1 then aboutW S i ||| (1 <<< (nI i &&& 31)) else aboutW S i
def oldestW (S : SV) : Nat → Int32
  | 0 => -1000004
  | i + 1 => if oldestW S i < cw S i 7 then cw S i 7 else oldestW S i
set_option maxHeartbeats 4000000 in
set_option maxRecDepth 100000 in
theorem c_X3_sumOver (l : Launch) (g : Gm) (M : Mem) (h : Nat) (hk : kd h = 3) (S : SV) (t : Nat) (hr : HR M h S) (hi : Inv S t) (z : Int32) (q : Nat) (hq : q < 14) : Cn l yX3_sumOver cX3_sumOver 5 (some .int) 2 41 g [.ref (ad g h), .int z, .int (nI q)] M (fun v M2 => v = some (.int (sumW S z q (cn S))) ∧ M2 = M) := by
  refine Cn.intro (lv0 := [some (.ref (ad g h)), some (.int z), some (.int (nI q)), none, none]) 2 (by decide +kernel) (Nat.le_of_ble_eq_true rfl) rfl (fun X F r => ?_)
  obtain ⟨hk1, hk2, hkC, hkG⟩ := kd_hall hk
  have hn := hi.cn_le
  have hm := hi.gn_le
  have L : ∀ (n i : Nat) (x : Int32), i + n = cn S → x = nI i → G X g 5 M 5 [some (.ref (ad g h)), some (.int z), some (.int (nI q)), some (.int (sumW S z q i)), some (.int x)] [] := by
    intro n
    induction n with
    | zero =>
      intro i x hin hx
      obtain rfl : i = cn S := by omega
      refine g_iload (pc := 5) F dX3_sumOver_5 rfl ?_
      refine g_aload_n (pc := 7) F dX3_sumOver_7 rfl ?_
      refine g_geti (pc := 8) F fl_X3_29 (by assumption) rfl dX3_sumOver_8 ?_
      refine g_icmp_ge (pc := 11) (tgt := 53) F dX3_sumOver_11 (by decide) (fun c11 => ?_) (fun c11 => ?_)
      · refine g_iload_n (pc := 53) F dX3_sumOver_53 rfl ?_
        refine g_iret (pc := 54) F r dX3_sumOver_54 ?_
        exact ⟨rfl, rfl⟩
      · exact absurd (by rw [hr.1, hn.2, hx]; exact nI_le (by omega) (by omega)) c11
    | succ n ih =>
      intro i x hin hx
      have hC := hr.2.2.2.2.1 i (by omega)
      have hkc := hkC i (by omega)
      refine g_iload (pc := 5) F dX3_sumOver_5 rfl ?_
      refine g_aload_n (pc := 7) F dX3_sumOver_7 rfl ?_
      refine g_geti (pc := 8) F fl_X3_29 (by assumption) rfl dX3_sumOver_8 ?_
      refine g_icmp_ge (pc := 11) (tgt := 53) F dX3_sumOver_11 (by decide) (fun c11 => ?_) (fun c11 => ?_)
      · exact absurd c11 (by rw [hr.1, hn.2, hx]; exact nI_ge (by omega) (by omega))
      · refine g_iload (pc := 14) F dX3_sumOver_14 rfl ?_
        refine g_aload_n (pc := 16) F dX3_sumOver_16 rfl ?_
        refine g_getr (pc := 17) F fl_X3_11 (by assumption) rfl dX3_sumOver_17 ?_
        refine g_alenK (pc := 20) F (by assumption) (v := 6) (by decide) dX3_sumOver_20 ?_
        refine g_icmp_ge (pc := 21) (tgt := 53) F dX3_sumOver_21 (by decide) (fun c21 => ?_) (fun c21 => ?_)
        · exact absurd c21 (by rw [hx]; exact nI_ge (a := i) (b := 6) (by omega) (by decide))
        · refine g_iload_n (pc := 24) F dX3_sumOver_24 rfl ?_
          refine g_iconst (pc := 25) (v := 1) F dX3_sumOver_25 (by decide) ?_
          refine g_iload (pc := 26) F dX3_sumOver_26 rfl ?_
          refine g_ishl (pc := 28) F dX3_sumOver_28 ?_
          refine g_iand (pc := 29) F dX3_sumOver_29 ?_
          refine g_if_eq (pc := 30) (tgt := 47) F dX3_sumOver_30 (by decide) (fun c30 => ?_) (fun c30 => ?_)
          · refine g_iinc (pc := 47) F dX3_sumOver_47 rfl rfl (by decide) rfl ?_
            refine g_goto (pc := 50) (tgt := 5) F dX3_sumOver_50 (by decide) ?_
            refine G.sub [some (.ref (ad g h)), some (.int z), some (.int (nI q)), some (.int (sumW S z q (i + 1))), some (.int (x + Int32.ofInt 1))] ⟨rfl, rfl, rfl, ?_, rfl, trivial⟩ (ih (i + 1) _ (by omega) (by rw [hx]; exact nI_1 i))
            · show some (Value.int _) = some (Value.int (if isIn z i then _ else _))
              rw [if_neg (by rw [hx] at c30; exact fun e => e c30)]
          · refine g_iload_n (pc := 33) F dX3_sumOver_33 rfl ?_
            refine g_aload_n (pc := 34) F dX3_sumOver_34 rfl ?_
            refine g_getr (pc := 35) F fl_X3_11 (by assumption) rfl dX3_sumOver_35 ?_
            refine g_iload (pc := 38) F dX3_sumOver_38 rfl ?_
            refine g_aaldK (pc := 40) (q := i) (r := h + 3 + 4 * i) F hk1 hx (by omega) (by omega) dX3_sumOver_40 ?_
            refine g_iload_n (pc := 41) F dX3_sumOver_41 rfl ?_
            refine g_callV (pc := 42) (rf2 := 1) (rl2 := 20) F cs_X3_138 (by assumption) rfl (by decide) (by rfl) (by rfl) (Nat.le_of_ble_eq_true (by rfl)) (by decide) dX3_sumOver_42 (c_X0_tell _ g _ (h + 3 + 4 * i) hkc q hq) (fun v M2 hz => ?_)
            obtain ⟨rfl, h2⟩ := hz
            rw [h2]
            refine g_iadd (pc := 45) F dX3_sumOver_45 ?_
            refine g_istore_n (pc := 46) F dX3_sumOver_46 (by decide) rfl ?_
            refine g_iinc (pc := 47) F dX3_sumOver_47 rfl rfl (by decide) rfl ?_
            refine g_goto (pc := 50) (tgt := 5) F dX3_sumOver_50 (by decide) ?_
            refine G.sub [some (.ref (ad g h)), some (.int z), some (.int (nI q)), some (.int (sumW S z q (i + 1))), some (.int (x + Int32.ofInt 1))] ⟨rfl, rfl, rfl, ?_, rfl, trivial⟩ (ih (i + 1) _ (by omega) (by rw [hx]; exact nI_1 i))
            · show some (Value.int _) = some (Value.int (if isIn z i then _ else _))
              rw [if_pos (by rw [hx] at c30; exact c30), tellV_wv hC q hq]
  refine g_iconst (pc := 0) (v := 0) F dX3_sumOver_0 (by decide) ?_
  refine g_istore_n (pc := 1) F dX3_sumOver_1 (by decide) rfl ?_
  refine g_iconst (pc := 2) (v := 0) F dX3_sumOver_2 (by decide) ?_
  refine g_istore (pc := 3) F dX3_sumOver_3 (by decide) rfl ?_
  exact L (cn S) 0 _ (by omega) nI_0.symm

set_option maxHeartbeats 4000000 in
set_option maxRecDepth 100000 in
theorem c_X3_leastRest (l : Launch) (g : Gm) (M : Mem) (h : Nat) (hk : kd h = 3) (S : SV) (t : Nat) (hr : HR M h S) (hi : Inv S t) (z : Int32) : Cn l yX3_leastRest cX3_leastRest 5 (some .int) 0 0 g [.ref (ad g h), .int z] M (fun v M2 => v = some (.int (leastW S z (cn S))) ∧ M2 = M) := by
  refine Cn.intro (lv0 := [some (.ref (ad g h)), some (.int z), none, none, none]) 3 (by decide +kernel) (Nat.le_of_ble_eq_true rfl) rfl (fun X F r => ?_)
  obtain ⟨hk1, hk2, hkC, hkG⟩ := kd_hall hk
  have hn := hi.cn_le
  have hm := hi.gn_le
  have L : ∀ (n i : Nat) (x : Int32), i + n = cn S → x = nI i → G X g 5 M 5 [some (.ref (ad g h)), some (.int z), some (.int (leastW S z i)), some (.int x), none] [] := by
    intro n
    induction n with
    | zero =>
      intro i x hin hx
      obtain rfl : i = cn S := by omega
      refine g_iload_n (pc := 5) F dX3_leastRest_5 rfl ?_
      refine g_aload_n (pc := 6) F dX3_leastRest_6 rfl ?_
      refine g_geti (pc := 7) F fl_X3_29 (by assumption) rfl dX3_leastRest_7 ?_
      refine g_icmp_ge (pc := 10) (tgt := 77) F dX3_leastRest_10 (by decide) (fun c10 => ?_) (fun c10 => ?_)
      · refine g_iload_n (pc := 77) F dX3_leastRest_77 rfl ?_
        refine g_iret (pc := 78) F r dX3_leastRest_78 ?_
        exact ⟨rfl, rfl⟩
      · exact absurd (by rw [hr.1, hn.2, hx]; exact nI_le (by omega) (by omega)) c10
    | succ n ih =>
      intro i x hin hx
      have hC := hr.2.2.2.2.1 i (by omega)
      have hkc := hkC i (by omega)
      refine g_iload_n (pc := 5) F dX3_leastRest_5 rfl ?_
      refine g_aload_n (pc := 6) F dX3_leastRest_6 rfl ?_
      refine g_geti (pc := 7) F fl_X3_29 (by assumption) rfl dX3_leastRest_7 ?_
      refine g_icmp_ge (pc := 10) (tgt := 77) F dX3_leastRest_10 (by decide) (fun c10 => ?_) (fun c10 => ?_)
      · exact absurd c10 (by rw [hr.1, hn.2, hx]; exact nI_ge (by omega) (by omega))
      · refine g_iload_n (pc := 13) F dX3_leastRest_13 rfl ?_
        refine g_aload_n (pc := 14) F dX3_leastRest_14 rfl ?_
        refine g_getr (pc := 15) F fl_X3_11 (by assumption) rfl dX3_leastRest_15 ?_
        refine g_alenK (pc := 18) F (by assumption) (v := 6) (by decide) dX3_leastRest_18 ?_
        refine g_icmp_ge (pc := 19) (tgt := 77) F dX3_leastRest_19 (by decide) (fun c19 => ?_) (fun c19 => ?_)
        · exact absurd c19 (by rw [hx]; exact nI_ge (a := i) (b := 6) (by omega) (by decide))
        · refine g_iload_n (pc := 22) F dX3_leastRest_22 rfl ?_
          refine g_iconst (pc := 23) (v := 1) F dX3_leastRest_23 (by decide) ?_
          refine g_iload_n (pc := 24) F dX3_leastRest_24 rfl ?_
          refine g_ishl (pc := 25) F dX3_leastRest_25 ?_
          refine g_iand (pc := 26) F dX3_leastRest_26 ?_
          refine g_if_eq (pc := 27) (tgt := 34) F dX3_leastRest_27 (by decide) (fun c27 => ?_) (fun c27 => ?_)
          · refine g_iconst (pc := 34) (v := 0) F dX3_leastRest_34 (by decide) ?_
            refine g_istore (pc := 35) F dX3_leastRest_35 (by decide) rfl ?_
            refine g_iload (pc := 37) F dX3_leastRest_37 rfl ?_
            refine g_if_eq (pc := 39) (tgt := 71) F dX3_leastRest_39 (by decide) (fun c39 => ?_) (fun c39 => ?_)
            · refine g_iinc (pc := 71) F dX3_leastRest_71 rfl rfl (by decide) rfl ?_
              refine g_goto (pc := 74) (tgt := 5) F dX3_leastRest_74 (by decide) ?_
              refine G.sub [some (.ref (ad g h)), some (.int z), some (.int (leastW S z (i + 1))), some (.int (x + Int32.ofInt 1)), none] ⟨rfl, rfl, ?_, rfl, trivial⟩ (ih (i + 1) _ (by omega) (by rw [hx]; exact nI_1 i))
              · show some (Value.int _) = some (Value.int (if isIn z i ∧ _ then _ else _))
                rw [if_neg (fun e => e.1 (by rw [hx] at c27; exact c27))]
            · exact absurd rfl c39
          · refine g_iconst (pc := 30) (v := 1) F dX3_leastRest_30 (by decide) ?_
            refine g_goto (pc := 31) (tgt := 35) F dX3_leastRest_31 (by decide) ?_
            refine g_istore (pc := 35) F dX3_leastRest_35 (by decide) rfl ?_
            refine g_iload (pc := 37) F dX3_leastRest_37 rfl ?_
            refine g_if_eq (pc := 39) (tgt := 71) F dX3_leastRest_39 (by decide) (fun c39 => ?_) (fun c39 => ?_)
            · exact absurd c39 (by decide)
            · refine g_iload_n (pc := 42) F dX3_leastRest_42 rfl ?_
              refine g_ldc (pc := 43) F wk_X3_137 dX3_leastRest_43 ?_
              refine g_icmp_eq (pc := 45) (tgt := 61) F dX3_leastRest_45 (by decide) (fun c45 => ?_) (fun c45 => ?_)
              · refine g_aload_n (pc := 61) F dX3_leastRest_61 rfl ?_
                refine g_getr (pc := 62) F fl_X3_11 (by assumption) rfl dX3_leastRest_62 ?_
                refine g_iload_n (pc := 65) F dX3_leastRest_65 rfl ?_
                refine g_aaldK (pc := 66) (q := i) (r := h + 3 + 4 * i) F hk1 hx (by omega) (by omega) dX3_leastRest_66 ?_
                refine g_geti (pc := 67) F fl_X3_113 (by assumption) rfl dX3_leastRest_67 ?_
                refine g_istore_n (pc := 70) F dX3_leastRest_70 (by decide) rfl ?_
                refine g_iinc (pc := 71) F dX3_leastRest_71 rfl rfl (by decide) rfl ?_
                refine g_goto (pc := 74) (tgt := 5) F dX3_leastRest_74 (by decide) ?_
                refine G.sub [some (.ref (ad g h)), some (.int z), some (.int (leastW S z (i + 1))), some (.int (x + Int32.ofInt 1)), none] ⟨rfl, rfl, ?_, rfl, trivial⟩ (ih (i + 1) _ (by omega) (by rw [hx]; exact nI_1 i))
                · show some (Value.int _) = some (Value.int (if isIn z i ∧ _ then _ else _))
                  rw [if_pos ⟨by rw [hx] at c27; exact c27, Or.inl c45⟩, hC.2.2.2.2.1]
              · refine g_aload_n (pc := 48) F dX3_leastRest_48 rfl ?_
                refine g_getr (pc := 49) F fl_X3_11 (by assumption) rfl dX3_leastRest_49 ?_
                refine g_iload_n (pc := 52) F dX3_leastRest_52 rfl ?_
                refine g_aaldK (pc := 53) (q := i) (r := h + 3 + 4 * i) F hk1 hx (by omega) (by omega) dX3_leastRest_53 ?_
                refine g_geti (pc := 54) F fl_X3_113 (by assumption) rfl dX3_leastRest_54 ?_
                refine g_iload_n (pc := 57) F dX3_leastRest_57 rfl ?_
                refine g_icmp_ge (pc := 58) (tgt := 71) F dX3_leastRest_58 (by decide) (fun c58 => ?_) (fun c58 => ?_)
                · refine g_iinc (pc := 71) F dX3_leastRest_71 rfl rfl (by decide) rfl ?_
                  refine g_goto (pc := 74) (tgt := 5) F dX3_leastRest_74 (by decide) ?_
                  refine G.sub [some (.ref (ad g h)), some (.int z), some (.int (leastW S z (i + 1))), some (.int (x + Int32.ofInt 1)), none] ⟨rfl, rfl, ?_, rfl, trivial⟩ (ih (i + 1) _ (by omega) (by rw [hx]; exact nI_1 i))
                  · show some (Value.int _) = some (Value.int (if isIn z i ∧ _ then _ else _))
                    rw [hC.2.2.2.2.1] at c58
                    rw [if_neg (fun e => e.2.elim c45 (fun w => Int32.not_lt.mpr c58 w))]
                · refine g_aload_n (pc := 61) F dX3_leastRest_61 rfl ?_
                  refine g_getr (pc := 62) F fl_X3_11 (by assumption) rfl dX3_leastRest_62 ?_
                  refine g_iload_n (pc := 65) F dX3_leastRest_65 rfl ?_
                  refine g_aaldK (pc := 66) (q := i) (r := h + 3 + 4 * i) F hk1 hx (by omega) (by omega) dX3_leastRest_66 ?_
                  refine g_geti (pc := 67) F fl_X3_113 (by assumption) rfl dX3_leastRest_67 ?_
                  refine g_istore_n (pc := 70) F dX3_leastRest_70 (by decide) rfl ?_
                  refine g_iinc (pc := 71) F dX3_leastRest_71 rfl rfl (by decide) rfl ?_
                  refine g_goto (pc := 74) (tgt := 5) F dX3_leastRest_74 (by decide) ?_
                  refine G.sub [some (.ref (ad g h)), some (.int z), some (.int (leastW S z (i + 1))), some (.int (x + Int32.ofInt 1)), none] ⟨rfl, rfl, ?_, rfl, trivial⟩ (ih (i + 1) _ (by omega) (by rw [hx]; exact nI_1 i))
                  · show some (Value.int _) = some (Value.int (if isIn z i ∧ _ then _ else _))
                    rw [hC.2.2.2.2.1] at c58
                    rw [if_pos ⟨by rw [hx] at c27; exact c27, Or.inr (Int32.not_le.mp c58)⟩, hC.2.2.2.2.1]
  refine g_ldc (pc := 0) F wk_X3_137 dX3_leastRest_0 ?_
  refine g_istore_n (pc := 2) F dX3_leastRest_2 (by decide) rfl ?_
  refine g_iconst (pc := 3) (v := 0) F dX3_leastRest_3 (by decide) ?_
  refine g_istore_n (pc := 4) F dX3_leastRest_4 (by decide) rfl ?_
  exact L (cn S) 0 _ (by omega) nI_0.symm

set_option maxHeartbeats 4000000 in
set_option maxRecDepth 100000 in
theorem c_X3_clocksAhead (l : Launch) (g : Gm) (M : Mem) (h : Nat) (hk : kd h = 3) (S : SV) (t : Nat) (hr : HR M h S) (hi : Inv S t) (c : Nat) (hc : c < cn S) : Cn l yX3_clocksAhead cX3_clocksAhead 6 (some .int) 0 0 g [.ref (ad g h), .int (nI c), .int (restW S c)] M (fun v M2 => v = some (.int (aheadW S c (cn S))) ∧ M2 = M) := by
  refine Cn.intro (lv0 := [some (.ref (ad g h)), some (.int (nI c)), some (.int (restW S c)), none, none, none]) 3 (by decide +kernel) (Nat.le_of_ble_eq_true rfl) rfl (fun X F r => ?_)
  obtain ⟨hk1, hk2, hkC, hkG⟩ := kd_hall hk
  have hn := hi.cn_le
  have hm := hi.gn_le
  have L : ∀ (n i : Nat) (x : Int32), i + n = cn S → x = nI i → G X g 6 M 5 [some (.ref (ad g h)), some (.int (nI c)), some (.int (restW S c)), some (.int (aheadW S c i)), some (.int x), none] [] := by
    intro n
    induction n with
    | zero =>
      intro i x hin hx
      obtain rfl : i = cn S := by omega
      refine g_iload (pc := 5) F dX3_clocksAhead_5 rfl ?_
      refine g_aload_n (pc := 7) F dX3_clocksAhead_7 rfl ?_
      refine g_geti (pc := 8) F fl_X3_29 (by assumption) rfl dX3_clocksAhead_8 ?_
      refine g_icmp_ge (pc := 11) (tgt := 63) F dX3_clocksAhead_11 (by decide) (fun c11 => ?_) (fun c11 => ?_)
      · refine g_iload_n (pc := 63) F dX3_clocksAhead_63 rfl ?_
        refine g_iret (pc := 64) F r dX3_clocksAhead_64 ?_
        exact ⟨rfl, rfl⟩
      · exact absurd (by rw [hr.1, hn.2, hx]; exact nI_le (by omega) (by omega)) c11
    | succ n ih =>
      intro i x hin hx
      have hC := hr.2.2.2.2.1 i (by omega)
      have hkc := hkC i (by omega)
      refine g_iload (pc := 5) F dX3_clocksAhead_5 rfl ?_
      refine g_aload_n (pc := 7) F dX3_clocksAhead_7 rfl ?_
      refine g_geti (pc := 8) F fl_X3_29 (by assumption) rfl dX3_clocksAhead_8 ?_
      refine g_icmp_ge (pc := 11) (tgt := 63) F dX3_clocksAhead_11 (by decide) (fun c11 => ?_) (fun c11 => ?_)
      · exact absurd c11 (by rw [hr.1, hn.2, hx]; exact nI_ge (by omega) (by omega))
      · refine g_iload (pc := 14) F dX3_clocksAhead_14 rfl ?_
        refine g_aload_n (pc := 16) F dX3_clocksAhead_16 rfl ?_
        refine g_getr (pc := 17) F fl_X3_11 (by assumption) rfl dX3_clocksAhead_17 ?_
        refine g_alenK (pc := 20) F (by assumption) (v := 6) (by decide) dX3_clocksAhead_20 ?_
        refine g_icmp_ge (pc := 21) (tgt := 63) F dX3_clocksAhead_21 (by decide) (fun c21 => ?_) (fun c21 => ?_)
        · exact absurd c21 (by rw [hx]; exact nI_ge (a := i) (b := 6) (by omega) (by decide))
        · refine g_aload_n (pc := 24) F dX3_clocksAhead_24 rfl ?_
          refine g_getr (pc := 25) F fl_X3_11 (by assumption) rfl dX3_clocksAhead_25 ?_
          refine g_iload (pc := 28) F dX3_clocksAhead_28 rfl ?_
          refine g_aaldK (pc := 30) (q := i) (r := h + 3 + 4 * i) F hk1 hx (by omega) (by omega) dX3_clocksAhead_30 ?_
          refine g_geti (pc := 31) F fl_X3_113 (by assumption) rfl dX3_clocksAhead_31 ?_
          refine g_istore (pc := 34) F dX3_clocksAhead_34 (by decide) rfl ?_
          refine g_iload (pc := 36) F dX3_clocksAhead_36 rfl ?_
          refine g_iload_n (pc := 38) F dX3_clocksAhead_38 rfl ?_
          refine g_icmp_lt (pc := 39) (tgt := 54) F dX3_clocksAhead_39 (by decide) (fun c39 => ?_) (fun c39 => ?_)
          · refine g_iinc (pc := 54) F dX3_clocksAhead_54 rfl rfl (by decide) rfl ?_
            refine g_iinc (pc := 57) F dX3_clocksAhead_57 rfl rfl (by decide) rfl ?_
            refine g_goto (pc := 60) (tgt := 5) F dX3_clocksAhead_60 (by decide) ?_
            refine G.sub [some (.ref (ad g h)), some (.int (nI c)), some (.int (restW S c)), some (.int (aheadW S c (i + 1))), some (.int (x + Int32.ofInt 1)), none] ⟨rfl, rfl, rfl, ?_, rfl, trivial⟩ (ih (i + 1) _ (by omega) (by rw [hx]; exact nI_1 i))
            · show some (Value.int _) = some (Value.int (if restW S i < restW S c ∨ _ then _ else _))
              rw [hC.2.2.2.2.1] at c39
              rw [if_pos (Or.inl c39)]
              rfl
          · refine g_iload (pc := 42) F dX3_clocksAhead_42 rfl ?_
            refine g_iload_n (pc := 44) F dX3_clocksAhead_44 rfl ?_
            refine g_icmp_ne (pc := 45) (tgt := 57) F dX3_clocksAhead_45 (by decide) (fun c45 => ?_) (fun c45 => ?_)
            · refine g_iinc (pc := 57) F dX3_clocksAhead_57 rfl rfl (by decide) rfl ?_
              refine g_goto (pc := 60) (tgt := 5) F dX3_clocksAhead_60 (by decide) ?_
              refine G.sub [some (.ref (ad g h)), some (.int (nI c)), some (.int (restW S c)), some (.int (aheadW S c (i + 1))), some (.int (x + Int32.ofInt 1)), none] ⟨rfl, rfl, rfl, ?_, rfl, trivial⟩ (ih (i + 1) _ (by omega) (by rw [hx]; exact nI_1 i))
              · show some (Value.int _) = some (Value.int (if restW S i < restW S c ∨ _ then _ else _))
                rw [hC.2.2.2.2.1] at c39 c45
                rw [if_neg (fun e => e.elim c39 (fun w => c45 w.1))]
            · refine g_iload (pc := 48) F dX3_clocksAhead_48 rfl ?_
              refine g_iload_n (pc := 50) F dX3_clocksAhead_50 rfl ?_
              refine g_icmp_ge (pc := 51) (tgt := 57) F dX3_clocksAhead_51 (by decide) (fun c51 => ?_) (fun c51 => ?_)
              · refine g_iinc (pc := 57) F dX3_clocksAhead_57 rfl rfl (by decide) rfl ?_
                refine g_goto (pc := 60) (tgt := 5) F dX3_clocksAhead_60 (by decide) ?_
                refine G.sub [some (.ref (ad g h)), some (.int (nI c)), some (.int (restW S c)), some (.int (aheadW S c (i + 1))), some (.int (x + Int32.ofInt 1)), none] ⟨rfl, rfl, rfl, ?_, rfl, trivial⟩ (ih (i + 1) _ (by omega) (by rw [hx]; exact nI_1 i))
                · show some (Value.int _) = some (Value.int (if restW S i < restW S c ∨ _ then _ else _))
                  rw [hC.2.2.2.2.1] at c39 c45
                  rw [if_neg (fun e => e.elim c39 (fun w => by rw [hx] at c51; exact nI_ge w.2 (by omega) c51))]
              · refine g_iinc (pc := 54) F dX3_clocksAhead_54 rfl rfl (by decide) rfl ?_
                refine g_iinc (pc := 57) F dX3_clocksAhead_57 rfl rfl (by decide) rfl ?_
                refine g_goto (pc := 60) (tgt := 5) F dX3_clocksAhead_60 (by decide) ?_
                refine G.sub [some (.ref (ad g h)), some (.int (nI c)), some (.int (restW S c)), some (.int (aheadW S c (i + 1))), some (.int (x + Int32.ofInt 1)), none] ⟨rfl, rfl, rfl, ?_, rfl, trivial⟩ (ih (i + 1) _ (by omega) (by rw [hx]; exact nI_1 i))
                · show some (Value.int _) = some (Value.int (if restW S i < restW S c ∨ _ then _ else _))
                  rw [hC.2.2.2.2.1] at c39 c45
                  rw [if_pos (Or.inr ⟨c45, by rw [hx, nI_leI (by omega) (by omega)] at c51; omega⟩)]
                  rfl
  refine g_iconst (pc := 0) (v := 0) F dX3_clocksAhead_0 (by decide) ?_
  refine g_istore_n (pc := 1) F dX3_clocksAhead_1 (by decide) rfl ?_
  refine g_iconst (pc := 2) (v := 0) F dX3_clocksAhead_2 (by decide) ?_
  refine g_istore (pc := 3) F dX3_clocksAhead_3 (by decide) rfl ?_
  exact L (cn S) 0 _ (by omega) nI_0.symm

set_option maxHeartbeats 4000000 in
set_option maxRecDepth 100000 in
theorem c_X3_clockInPlace (l : Launch) (g : Gm) (M : Mem) (h : Nat) (hk : kd h = 3) (S : SV) (t : Nat) (hr : HR M h S) (hi : Inv S t) (p : Int32) : Cn l yX3_clockInPlace cX3_clockInPlace 3 (some .int) 1 25 g [.ref (ad g h), .int p] M (fun v M2 => v = some (.int (nextW S p (cn S))) ∧ M2 = M) := by
  refine Cn.intro (lv0 := [some (.ref (ad g h)), some (.int p), none]) 1 (by decide +kernel) (Nat.le_of_ble_eq_true rfl) rfl (fun X F r => ?_)
  obtain ⟨hk1, hk2, hkC, hkG⟩ := kd_hall hk
  have hn := hi.cn_le
  have hm := hi.gn_le
  have L : ∀ (n i : Nat) (x : Int32), i + n = cn S → x = nI i → nextW S p (cn S) = nextW S p n → G X g 3 M 2 [some (.ref (ad g h)), some (.int p), some (.int x)] [] := by
    intro n
    induction n with
    | zero =>
      intro i x hin hx hE
      obtain rfl : i = cn S := by omega
      refine g_iload_n (pc := 2) F dX3_clockInPlace_2 rfl ?_
      refine g_aload_n (pc := 3) F dX3_clockInPlace_3 rfl ?_
      refine g_geti (pc := 4) F fl_X3_29 (by assumption) rfl dX3_clockInPlace_4 ?_
      refine g_icmp_ge (pc := 7) (tgt := 45) F dX3_clockInPlace_7 (by decide) (fun c7 => ?_) (fun c7 => ?_)
      · refine g_ldc (pc := 45) F wk_X3_137 dX3_clockInPlace_45 ?_
        refine g_iret (pc := 47) F r dX3_clockInPlace_47 ?_
        have e0 : nextW S p (cn S) = nextW S p 0 := hE
        rw [e0]
        exact ⟨rfl, rfl⟩
      · exact absurd (by rw [hr.1, hn.2, hx]; exact nI_le (by omega) (by omega)) c7
    | succ n ih =>
      intro i x hin hx hE
      have hC := hr.2.2.2.2.1 i (by omega)
      have hkc := hkC i (by omega)
      refine g_iload_n (pc := 2) F dX3_clockInPlace_2 rfl ?_
      refine g_aload_n (pc := 3) F dX3_clockInPlace_3 rfl ?_
      refine g_geti (pc := 4) F fl_X3_29 (by assumption) rfl dX3_clockInPlace_4 ?_
      refine g_icmp_ge (pc := 7) (tgt := 45) F dX3_clockInPlace_7 (by decide) (fun c7 => ?_) (fun c7 => ?_)
      · exact absurd c7 (by rw [hr.1, hn.2, hx]; exact nI_ge (by omega) (by omega))
      · refine g_iload_n (pc := 10) F dX3_clockInPlace_10 rfl ?_
        refine g_aload_n (pc := 11) F dX3_clockInPlace_11 rfl ?_
        refine g_getr (pc := 12) F fl_X3_11 (by assumption) rfl dX3_clockInPlace_12 ?_
        refine g_alenK (pc := 15) F (by assumption) (v := 6) (by decide) dX3_clockInPlace_15 ?_
        refine g_icmp_ge (pc := 16) (tgt := 45) F dX3_clockInPlace_16 (by decide) (fun c16 => ?_) (fun c16 => ?_)
        · exact absurd c16 (by rw [hx]; exact nI_ge (a := i) (b := 6) (by omega) (by decide))
        · refine g_aload_n (pc := 19) F dX3_clockInPlace_19 rfl ?_
          refine g_iload_n (pc := 20) F dX3_clockInPlace_20 rfl ?_
          refine g_aload_n (pc := 21) F dX3_clockInPlace_21 rfl ?_
          refine g_getr (pc := 22) F fl_X3_11 (by assumption) rfl dX3_clockInPlace_22 ?_
          refine g_iload_n (pc := 25) F dX3_clockInPlace_25 rfl ?_
          refine g_aaldK (pc := 26) (q := i) (r := h + 3 + 4 * i) F hk1 hx (by omega) (by omega) dX3_clockInPlace_26 ?_
          refine g_geti (pc := 27) F fl_X3_113 (by assumption) rfl dX3_clockInPlace_27 ?_
          refine g_stk (st' := [.int (restW S i), .int (nI i), .ref (ad g h)]) (by rw [hC.2.2.2.2.1, hx]) ?_
          refine g_callV (pc := 30) (rf2 := 0) (rl2 := 0) F cs_X3_141 (by assumption) rfl (by decide) (by rfl) (by rfl) (Nat.le_of_ble_eq_true (by rfl)) (by decide) dX3_clockInPlace_30 (c_X3_clocksAhead _ g _ h hk S t hr hi i (by omega)) (fun v M2 hz => ?_)
          obtain ⟨rfl, h2⟩ := hz
          rw [h2]
          refine g_iload_n (pc := 33) F dX3_clockInPlace_33 rfl ?_
          refine g_icmp_ne (pc := 34) (tgt := 39) F dX3_clockInPlace_34 (by decide) (fun c34 => ?_) (fun c34 => ?_)
          · refine g_iinc (pc := 39) F dX3_clockInPlace_39 rfl rfl (by decide) rfl ?_
            refine g_goto (pc := 42) (tgt := 2) F dX3_clockInPlace_42 (by decide) ?_
            refine G.sub [some (.ref (ad g h)), some (.int p), some (.int (x + Int32.ofInt 1))] ⟨rfl, rfl, rfl, trivial⟩ (ih (i + 1) _ (by omega) (by rw [hx]; exact nI_1 i) ?_)
            rw [hE]
            show (if aheadW S (cn S - (n + 1)) (cn S) = p then nI (cn S - (n + 1)) else nextW S p n) = nextW S p n
            rw [show cn S - (n + 1) = i by omega, if_neg c34]
          · refine g_iload_n (pc := 37) F dX3_clockInPlace_37 rfl ?_
            refine g_iret (pc := 38) F r dX3_clockInPlace_38 ?_
            rw [hE, show nextW S p (n + 1) = nI i by
              show (if aheadW S (cn S - (n + 1)) (cn S) = p then nI (cn S - (n + 1)) else nextW S p n) = nI i
              rw [show cn S - (n + 1) = i by omega, if_pos c34]]
            exact ⟨by rw [hx], rfl⟩
  refine g_iconst (pc := 0) (v := 0) F dX3_clockInPlace_0 (by decide) ?_
  refine g_istore_n (pc := 1) F dX3_clockInPlace_1 (by decide) rfl ?_
  exact L (cn S) 0 _ (by omega) nI_0.symm rfl

set_option maxHeartbeats 4000000 in
set_option maxRecDepth 100000 in
theorem c_X3_aboutToTell (l : Launch) (g : Gm) (M : Mem) (h : Nat) (hk : kd h = 3) (S : SV) (t : Nat) (hr : HR M h S) (hi : Inv S t) : Cn l yX3_aboutToTell cX3_aboutToTell 3 (some .int) 0 0 g [.ref (ad g h)] M (fun v M2 => v = some (.int (aboutW S (cn S))) ∧ M2 = M) := by
  refine Cn.intro (lv0 := [some (.ref (ad g h)), none, none]) 2 (by decide +kernel) (Nat.le_of_ble_eq_true rfl) rfl (fun X F r => ?_)
  obtain ⟨hk1, hk2, hkC, hkG⟩ := kd_hall hk
  have hn := hi.cn_le
  have hm := hi.gn_le
  have L : ∀ (n i : Nat) (x : Int32), i + n = cn S → x = nI i → G X g 3 M 4 [some (.ref (ad g h)), some (.int (aboutW S i)), some (.int x)] [] := by
    intro n
    induction n with
    | zero =>
      intro i x hin hx
      obtain rfl : i = cn S := by omega
      refine g_iload_n (pc := 4) F dX3_aboutToTell_4 rfl ?_
      refine g_aload_n (pc := 5) F dX3_aboutToTell_5 rfl ?_
      refine g_geti (pc := 6) F fl_X3_29 (by assumption) rfl dX3_aboutToTell_6 ?_
      refine g_icmp_ge (pc := 9) (tgt := 46) F dX3_aboutToTell_9 (by decide) (fun c9 => ?_) (fun c9 => ?_)
      · refine g_iload_n (pc := 46) F dX3_aboutToTell_46 rfl ?_
        refine g_iret (pc := 47) F r dX3_aboutToTell_47 ?_
        exact ⟨rfl, rfl⟩
      · exact absurd (by rw [hr.1, hn.2, hx]; exact nI_le (by omega) (by omega)) c9
    | succ n ih =>
      intro i x hin hx
      have hC := hr.2.2.2.2.1 i (by omega)
      have hkc := hkC i (by omega)
      refine g_iload_n (pc := 4) F dX3_aboutToTell_4 rfl ?_
      refine g_aload_n (pc := 5) F dX3_aboutToTell_5 rfl ?_
      refine g_geti (pc := 6) F fl_X3_29 (by assumption) rfl dX3_aboutToTell_6 ?_
      refine g_icmp_ge (pc := 9) (tgt := 46) F dX3_aboutToTell_9 (by decide) (fun c9 => ?_) (fun c9 => ?_)
      · exact absurd c9 (by rw [hr.1, hn.2, hx]; exact nI_ge (by omega) (by omega))
      · refine g_iload_n (pc := 12) F dX3_aboutToTell_12 rfl ?_
        refine g_aload_n (pc := 13) F dX3_aboutToTell_13 rfl ?_
        refine g_getr (pc := 14) F fl_X3_11 (by assumption) rfl dX3_aboutToTell_14 ?_
        refine g_alenK (pc := 17) F (by assumption) (v := 6) (by decide) dX3_aboutToTell_17 ?_
        refine g_icmp_ge (pc := 18) (tgt := 46) F dX3_aboutToTell_18 (by decide) (fun c18 => ?_) (fun c18 => ?_)
        · exact absurd c18 (by rw [hx]; exact nI_ge (a := i) (b := 6) (by omega) (by decide))
        · refine g_aload_n (pc := 21) F dX3_aboutToTell_21 rfl ?_
          refine g_getr (pc := 22) F fl_X3_11 (by assumption) rfl dX3_aboutToTell_22 ?_
          refine g_iload_n (pc := 25) F dX3_aboutToTell_25 rfl ?_
          refine g_aaldK (pc := 26) (q := i) (r := h + 3 + 4 * i) F hk1 hx (by omega) (by omega) dX3_aboutToTell_26 ?_
          refine g_geti (pc := 27) F fl_X3_113 (by assumption) rfl dX3_aboutToTell_27 ?_
          refine g_iconst (pc := 30) (v := 1) F dX3_aboutToTell_30 (by decide) ?_
          refine g_icmp_ne (pc := 31) (tgt := 40) F dX3_aboutToTell_31 (by decide) (fun c31 => ?_) (fun c31 => ?_)
          · refine g_iinc (pc := 40) F dX3_aboutToTell_40 rfl rfl (by decide) rfl ?_
            refine g_goto (pc := 43) (tgt := 4) F dX3_aboutToTell_43 (by decide) ?_
            refine G.sub [some (.ref (ad g h)), some (.int (aboutW S (i + 1))), some (.int (x + Int32.ofInt 1))] ⟨rfl, ?_, rfl, trivial⟩ (ih (i + 1) _ (by omega) (by rw [hx]; exact nI_1 i))
            · show some (Value.int _) = some (Value.int (if restW S i = 1 then _ else _))
              rw [hC.2.2.2.2.1] at c31
              rw [if_neg c31]
          · refine g_iload_n (pc := 34) F dX3_aboutToTell_34 rfl ?_
            refine g_iconst (pc := 35) (v := 1) F dX3_aboutToTell_35 (by decide) ?_
            refine g_iload_n (pc := 36) F dX3_aboutToTell_36 rfl ?_
            refine g_ishl (pc := 37) F dX3_aboutToTell_37 ?_
            refine g_ior (pc := 38) F dX3_aboutToTell_38 ?_
            refine g_istore_n (pc := 39) F dX3_aboutToTell_39 (by decide) rfl ?_
            refine g_iinc (pc := 40) F dX3_aboutToTell_40 rfl rfl (by decide) rfl ?_
            refine g_goto (pc := 43) (tgt := 4) F dX3_aboutToTell_43 (by decide) ?_
            refine G.sub [some (.ref (ad g h)), some (.int (aboutW S (i + 1))), some (.int (x + Int32.ofInt 1))] ⟨rfl, ?_, rfl, trivial⟩ (ih (i + 1) _ (by omega) (by rw [hx]; exact nI_1 i))
            · show some (Value.int _) = some (Value.int (if restW S i = 1 then _ else _))
              rw [hC.2.2.2.2.1] at c31
              rw [if_pos c31, hx]
  refine g_iconst (pc := 0) (v := 0) F dX3_aboutToTell_0 (by decide) ?_
  refine g_istore_n (pc := 1) F dX3_aboutToTell_1 (by decide) rfl ?_
  refine g_iconst (pc := 2) (v := 0) F dX3_aboutToTell_2 (by decide) ?_
  refine g_istore_n (pc := 3) F dX3_aboutToTell_3 (by decide) rfl ?_
  exact L (cn S) 0 _ (by omega) nI_0.symm

theorem wc_mathmax : Cond.code Lib.Math.max.name Lib.Math.max.code 2 (some .int) ∈ lw_ws := ws_mem 251 (by decide +kernel) rfl
theorem g_mmax {X : XT} {g : Gm} {cc : ByteArray} {nL : Nat} {own : String} {rf rl : Nat} {M : Mem} {pc : Nat} {lv : List (Option Value)} {st : List Value} (F : FX X g cc nL own rf rl) {idx : Nat} {x y : Int32} (w : Cond.methodLink own idx Lib.Math.max.name ∈ lw_ws ∧ Cond.static Lib.Math.max.name ∈ lw_ws ∧ Cond.initialized "java/lang/Math" ∈ lw_ws) (hfr : 1 ≤ rf) (hrl2 : (st.map fun v => v.category).sum + 13 ≤ rl) (hd : decode cc pc = .ok (.invokestatic idx, 3)) (kk : G X g nL M (pc + 3) lv (.int (if x < y then y else x) :: st)) : G X g nL M pc lv (.int y :: .int x :: st) := by
  obtain ⟨p, l, e, R, s, m, args, below, meth, c0, cells, slots, Q⟩ := X
  obtain ⟨⟨hx, hb, hml, hown, hts⟩, hW, hrf, hrl, hcl, hsl, hgb⟩ := F
  intro H locs ls hP hS hL
  exact va_mmax hx hb (hml.trans hL.1.symm) hown (hts _ w.1) (hts _ w.2.1) (hts _ w.2.2) (hts _ wc_mathmax) (by rw [hrf]; exact hfr) (by rw [hrl]; exact hrl2) hcl hsl hd (kk H locs ls hP hS hL)
set_option maxHeartbeats 4000000 in
set_option maxRecDepth 100000 in
theorem c_X3_greatestAge (l : Launch) (g : Gm) (M : Mem) (h : Nat) (hk : kd h = 3) (S : SV) (t : Nat) (hr : HR M h S) (hi : Inv S t) : Cn l yX3_greatestAge cX3_greatestAge 3 (some .int) 1 30 g [.ref (ad g h)] M (fun v M2 => v = some (.int (oldestW S (cn S))) ∧ M2 = M) := by
  refine Cn.intro (lv0 := [some (.ref (ad g h)), none, none]) 2 (by decide +kernel) (Nat.le_of_ble_eq_true rfl) rfl (fun X F r => ?_)
  obtain ⟨hk1, hk2, hkC, hkG⟩ := kd_hall hk
  have hn := hi.cn_le
  have hm := hi.gn_le
  have L : ∀ (n i : Nat) (x : Int32), i + n = cn S → x = nI i → G X g 3 M 5 [some (.ref (ad g h)), some (.int (oldestW S i)), some (.int x)] [] := by
    intro n
    induction n with
    | zero =>
      intro i x hin hx
      obtain rfl : i = cn S := by omega
      refine g_iload_n (pc := 5) F dX3_greatestAge_5 rfl ?_
      refine g_aload_n (pc := 6) F dX3_greatestAge_6 rfl ?_
      refine g_geti (pc := 7) F fl_X3_29 (by assumption) rfl dX3_greatestAge_7 ?_
      refine g_icmp_ge (pc := 10) (tgt := 42) F dX3_greatestAge_10 (by decide) (fun c10 => ?_) (fun c10 => ?_)
      · refine g_iload_n (pc := 42) F dX3_greatestAge_42 rfl ?_
        refine g_iret (pc := 43) F r dX3_greatestAge_43 ?_
        exact ⟨rfl, rfl⟩
      · exact absurd (by rw [hr.1, hn.2, hx]; exact nI_le (by omega) (by omega)) c10
    | succ n ih =>
      intro i x hin hx
      have hC := hr.2.2.2.2.1 i (by omega)
      have hkc := hkC i (by omega)
      refine g_iload_n (pc := 5) F dX3_greatestAge_5 rfl ?_
      refine g_aload_n (pc := 6) F dX3_greatestAge_6 rfl ?_
      refine g_geti (pc := 7) F fl_X3_29 (by assumption) rfl dX3_greatestAge_7 ?_
      refine g_icmp_ge (pc := 10) (tgt := 42) F dX3_greatestAge_10 (by decide) (fun c10 => ?_) (fun c10 => ?_)
      · exact absurd c10 (by rw [hr.1, hn.2, hx]; exact nI_ge (by omega) (by omega))
      · refine g_iload_n (pc := 13) F dX3_greatestAge_13 rfl ?_
        refine g_aload_n (pc := 14) F dX3_greatestAge_14 rfl ?_
        refine g_getr (pc := 15) F fl_X3_11 (by assumption) rfl dX3_greatestAge_15 ?_
        refine g_alenK (pc := 18) F (by assumption) (v := 6) (by decide) dX3_greatestAge_18 ?_
        refine g_icmp_ge (pc := 19) (tgt := 42) F dX3_greatestAge_19 (by decide) (fun c19 => ?_) (fun c19 => ?_)
        · exact absurd c19 (by rw [hx]; exact nI_ge (a := i) (b := 6) (by omega) (by decide))
        · refine g_iload_n (pc := 22) F dX3_greatestAge_22 rfl ?_
          refine g_aload_n (pc := 23) F dX3_greatestAge_23 rfl ?_
          refine g_getr (pc := 24) F fl_X3_11 (by assumption) rfl dX3_greatestAge_24 ?_
          refine g_iload_n (pc := 27) F dX3_greatestAge_27 rfl ?_
          refine g_aaldK (pc := 28) (q := i) (r := h + 3 + 4 * i) F hk1 hx (by omega) (by omega) dX3_greatestAge_28 ?_
          refine g_callV (pc := 29) (rf2 := 0) (rl2 := 0) F cs_X3_149 (by assumption) rfl (by decide) (by rfl) (by rfl) (Nat.le_of_ble_eq_true (by rfl)) (by decide) dX3_greatestAge_29 (c_X0_age _ g _ (h + 3 + 4 * i) hkc) (fun v M2 hz => ?_)
          obtain ⟨rfl, h2⟩ := hz
          rw [h2]
          refine g_mmax (pc := 32) F ⟨wl_X3_152, wt_J9_max_7cf53, wz_J9⟩ (by decide) (Nat.le_of_ble_eq_true (by rfl)) dX3_greatestAge_32 ?_
          refine g_istore_n (pc := 35) F dX3_greatestAge_35 (by decide) rfl ?_
          refine g_iinc (pc := 36) F dX3_greatestAge_36 rfl rfl (by decide) rfl ?_
          refine g_goto (pc := 39) (tgt := 5) F dX3_greatestAge_39 (by decide) ?_
          refine G.sub [some (.ref (ad g h)), some (.int (oldestW S (i + 1))), some (.int (x + Int32.ofInt 1))] ⟨rfl, ?_, rfl, trivial⟩ (ih (i + 1) _ (by omega) (by rw [hx]; exact nI_1 i))
          · show some (Value.int (if _ then _ else _)) = some (Value.int (if oldestW S i < cw S i 7 then _ else _))
            rw [show M (h + 3 + 4 * i) 3 - M (h + 3 + 4 * i) 4 = cw S i 7 by rw [hC.2.2.2.1, hC.2.2.2.2.1, i_sub_sub]]
  refine g_ldc (pc := 0) F wk_X3_137 dX3_greatestAge_0 ?_
  refine g_istore_n (pc := 2) F dX3_greatestAge_2 (by decide) rfl ?_
  refine g_iconst (pc := 3) (v := 0) F dX3_greatestAge_3 (by decide) ?_
  refine g_istore_n (pc := 4) F dX3_greatestAge_4 (by decide) rfl ?_
  exact L (cn S) 0 _ (by omega) nI_0.symm
