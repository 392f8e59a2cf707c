/-! a step of the law -/
theorem GP_cw {S S' : SV} (hcn : cn S' = cn S) (hgn : gn S' = gn S) (hgw : ∀ k, k < gn S → gw S' k 1 = gw S k 1 ∧ gw S' k 0 = gw S k 0) (hcw : ∀ i, i < cn S → cw S' i 0 = cw S i 0) (h : GP S) : GP S' := by
  intro k hk i hi6 hin
  rw [hgn] at hk
  rw [(hgw k hk).1] at hin
  obtain ⟨q1, q2⟩ := h k hk i hi6 hin
  rw [hcn, (hgw k hk).2, hcw i q1]
  exact ⟨q1, q2⟩
theorem cn_setC (S : SV) (i : Nat) (w : Nat → Int32) : cn (setC S i w) = cn S ∧ gn (setC S i w) = gn S := by
  unfold cn gn
  rw [setC_lo _ _ _ (by decide), setC_lo _ _ _ (by decide)]
  exact ⟨rfl, rfl⟩
theorem cw_setC0 (S : SV) (i k : Nat) (w : Nat → Int32) (h : w 0 = cw S i 0) : cw (setC S i w) k 0 = cw S k 0 := by
  by_cases hk : k = i
  · rw [hk, cw_setC _ _ _ (by decide), h]
  · rw [cw_setC_ne _ _ (by decide) hk]
theorem cw_beg0 (S : SV) (i k : Nat) (q : Int32) : cw (beg S i q) k 0 = cw S k 0 := by
  unfold beg
  rw [cw_upd_lo _ _ _ (by decide)]
  exact cw_setC0 S i k _ (bw_lo _ _ _ (by decide) (by decide) (by decide))
theorem gw_beg (S : SV) {i : Nat} (hi : i < 6) (k j : Nat) (q : Int32) : gw (beg S i q) k j = gw S k j := by
  unfold beg
  rw [gw_upd_lo _ _ _ (by decide), gw_setC _ _ hi]
theorem GP_wnd {S : SV} {i : Nat} (hi : i < 6) (h : GP S) : GP (wnd S i) := by
  unfold wnd
  refine GP_cw ((cn_setC _ _ _).1.trans (cn_beg _ _ _)) ((cn_setC _ _ _).2.trans (gn_beg _ _ _)) (fun k _ => ⟨(gw_setC _ _ hi k 1).trans (gw_beg S hi k 1 _), (gw_setC _ _ hi k 0).trans (gw_beg S hi k 0 _)⟩) (fun j _ => ?_) h
  rw [cw_setC0 _ _ _ _ (upd_ne _ _ (by decide)), cw_beg0]
theorem GP_pas {S : SV} {i : Nat} (hi : i < 6) (h : GP S) : GP (pasC S i) := by
  unfold pasC
  refine GP_cw (cn_setC _ _ _).1 (cn_setC _ _ _).2 (fun k _ => ⟨gw_setC _ _ hi k 1, gw_setC _ _ hi k 0⟩) (fun j _ => ?_) h
  exact cw_setC0 _ _ _ _ ((upd_ne _ _ (by decide)).trans (upd_ne _ _ (by decide)))
theorem eC_law (S : SV) : ∀ i, i ≤ 6 → ∀ k, cw (eC S i).1 k 0 = cw S k 0 := by
  intro i
  induction i with
  | zero => intro _ k; rfl
  | succ i ih =>
    intro hi k
    rw [← ih (by omega) k]
    show cw (sC (eC S i).1 i) k 0 = _
    unfold sC
    split
    · rw [cw_beg0]
      exact cw_setC0 _ _ _ _ (by unfold tw ow; rw [upd_ne _ _ (by decide), upd_ne _ _ (by decide), upd_ne _ _ (by decide), upd_ne _ _ (by decide), upd_ne _ _ (by decide)])
    · exact cw_setC0 _ _ _ _ (by unfold ow; rw [upd_ne _ _ (by decide)])
theorem eG_mem (S : SV) (z : Int32) : ∀ i k, gw (eG S z i) k 0 = gw S k 0 ∧ gw (eG S z i) k 1 = gw S k 1 := by
  intro i
  induction i with
  | zero => intro k; exact ⟨rfl, rfl⟩
  | succ i ih =>
    intro k
    show gw (setGr (eG S z i) i (gtick (gw (eG S z i) i) z)) k 0 = _ ∧ gw (setGr (eG S z i) i (gtick (gw (eG S z i) i) z)) k 1 = _
    by_cases hk : k = i
    · rw [hk, gw_setGr _ _ _ (by decide), gw_setGr _ _ _ (by decide)]
      exact ih i
    · rw [gw_setGr_ne _ _ (by decide) hk, gw_setGr_ne _ _ (by decide) hk]
      exact ih k
theorem eG_cw (S : SV) (z : Int32) : ∀ i k, k < 6 → cw (eG S z i) k 0 = cw S k 0 := by
  intro i
  induction i with
  | zero => intro k _; rfl
  | succ i ih =>
    intro k hk
    show cw (setGr _ i _) k 0 = _
    rw [cw_setGr _ _ _ hk (by decide)]
    exact ih k hk
theorem GP_ends {S : SV} {t : Nat} (hi : Inv S t) (h : GP S) : GP (ends S) := by
  obtain ⟨e0, e1, ec, eg⟩ := ends_lo hi
  obtain ⟨-, -, a3, -⟩ := eC_inv hi (cn S) (Nat.le_refl _)
  have h6 := hi.cn_le.1
  refine GP_cw ec eg (fun k _ => ?_) (fun i hi' => ?_) h
  · unfold ends
    rw [gw_upd_lo _ _ _ (by decide)]
    exact ⟨((eG_mem _ _ _ k).2).trans (a3 k 1 (by decide)), ((eG_mem _ _ _ k).1).trans (a3 k 0 (by decide))⟩
  · unfold ends
    rw [cw_upd_lo _ _ _ (by decide)]
    exact (eG_cw _ _ _ i (by omega)).trans (eC_law S (cn S) h6 i)
theorem GP_endsN {S : SV} {t : Nat} (hi : Inv S t) (h : GP S) : ∀ k, t + k ≤ 100200 → GP (endsN S k).2 := by
  intro k
  induction k with
  | zero => intro _; exact h
  | succ k ih => intro hk; exact GP_ends (endsN_inv hi k (by omega)) (ih (by omega))
set_option maxHeartbeats 4000000 in
set_option maxRecDepth 100000 in
theorem acts_tick {X : XT} {g : Gm} (F : FX X g cL_acts 12 yL_acts.cls 6 161) (r : RX X g (some .boolean) (fun v M2 => v = some (.int 1) ∧ JP M2)) (M : Mem) (S : SV) (P : Nat → SV) (pn : Nat) (hCA : CA M (S, P, pn, fun _ => 0, 0)) (hAI : AI (S, P, pn, fun _ => 0, 0)) (hGP : GP S) (t : Nat) (ht : t ≤ 99999) (hi : Inv S t) (z : Int32) (y w ci : Nat) (hy : y < 10000000) (hci : ci < cn S) (k : Nat) (k1 : 1 ≤ k) (k2 : k ≤ 200) : G X g 12 (WM M S) 251 [some (.ref (ad g 0)), some (.ref (ad g 224)), some (.ref (ad g 225)), some (.ref (ad g 226)), some (.ref (ad g 227)), some (.int z), some (.int (nI y)), some (.int (nI w)), some (.int (nI ci)), none, none, none] [.int (nI k)] := by
  have hn := hi.cn_le
  have hm := hi.gn_le
  have hci6 : ci < 6 := by omega
  have hkP : ticksP (nI k) := ⟨(nI_leI (a := 1) (by decide) (by omega)).mpr k1, (nI_leI (b := 200) (by omega) (by decide)).mpr k2⟩
  refine g_istore (pc := 251) F dL_acts_251 (by decide) rfl ?_
  refine g_aload_n (pc := 253) F dL_acts_253 rfl ?_
  refine g_iconst (pc := 254) (v := 2) F dL_acts_254 (by decide) ?_
  refine g_gld (pc := 255) (j := 2) F rfl (by decide) dL_acts_255 ?_
  rw [hi.2.2.1]
  refine g_iload (pc := 256) F dL_acts_256 rfl ?_
  refine g_iaddN (pc := 258) (a := t) (b := k) F rfl rfl dL_acts_258 ?_
  refine g_ldc (pc := 259) F wk_L_70 dL_acts_259 ?_
  refine g_icmp_le (pc := 261) (tgt := 281) F dL_acts_261 (by decide) (fun c261 => ?_) (fun c261 => ?_)
  · have htk : t + k ≤ 99999 := (nI_leI (b := 99999) (by omega) (by decide)).mp c261
    refine g_iconst (pc := 281) (v := 0) F dL_acts_281 (by decide) ?_
    refine g_istore (pc := 282) F dL_acts_282 (by decide) rfl ?_
    refine g_iconst (pc := 284) (v := 0) F dL_acts_284 (by decide) ?_
    refine g_istore (pc := 285) F dL_acts_285 (by decide) rfl ?_
    have eT : oTick S (nI k) = endsN S k := by
      unfold oTick
      rw [if_pos hkP, if_pos (by rw [hi.2.2.1, nI_add]; exact c261), ixN_nI (by omega)]
    have L : ∀ (n j : Nat), j + n = k → G X g 12 (WM M (endsN S j).2) 287 [some (.ref (ad g 0)), some (.ref (ad g 224)), some (.ref (ad g 225)), some (.ref (ad g 226)), some (.ref (ad g 227)), some (.int z), some (.int (nI y)), some (.int (nI w)), some (.int (nI ci)), some (.int (nI k)), some (.int (endsN S j).1), some (.int (nI j))] [] := by
      intro n
      induction n with
      | zero =>
        intro j hj
        obtain rfl : k = j := by omega
        refine g_iload (pc := 287) F dL_acts_287 rfl ?_
        refine g_iload (pc := 289) F dL_acts_289 rfl ?_
        refine g_icmp_ge (pc := 291) (tgt := 313) F dL_acts_291 (by decide) (fun c291 => ?_) (fun c291 => ?_)
        · refine g_aload_n (pc := 313) F dL_acts_313 rfl ?_
          refine g_iload (pc := 314) F dL_acts_314 rfl ?_
          refine g_callV (pc := 316) (rf2 := 4) (rl2 := 104) F cs_L_60 kd0 rfl (by decide) (by rfl) (by rfl) (Nat.le_of_ble_eq_true (by rfl)) (by decide) dL_acts_316 (w_tick _ g M S (endsN S k).2 P pn hCA hAI _) (fun v M2 hz => ?_)
          obtain ⟨rfl, q1, q2, q3⟩ := hz
          rw [eT] at q1 q2 ⊢
          have eM := WM_fr q3
          rw [eM]
          refine g_iload (pc := 319) F dL_acts_319 rfl ?_
          refine g_icmp_ne (pc := 321) (tgt := 328) F dL_acts_321 (by decide) (fun c321 => ?_) (fun c321 => ?_)
          · exact absurd rfl c321
          · refine g_iconst (pc := 324) (v := 1) F dL_acts_324 (by decide) ?_
            refine g_goto (pc := 325) (tgt := 329) F dL_acts_325 (by decide) ?_
            refine g_zret (pc := 329) F (by decide) r dL_acts_329 ?_
            rw [← eM]
            refine ⟨rfl, JP_ch rfl ?_ q1 q2 q3 (GP_endsN hi hGP k (by omega))⟩
            obtain ⟨u, u1, u2⟩ := endsN_num hi k (by omega)
            rw [u2]
            exact nI_nneg (by omega)
        · exact absurd (Int32.le_refl _) c291
      | succ n ih =>
        intro j hj
        refine g_iload (pc := 287) F dL_acts_287 rfl ?_
        refine g_iload (pc := 289) F dL_acts_289 rfl ?_
        refine g_icmp_ge (pc := 291) (tgt := 313) F dL_acts_291 (by decide) (fun c291 => ?_) (fun c291 => ?_)
        · exact absurd c291 (nI_ge (by omega) (by omega))
        · refine g_iload (pc := 294) F dL_acts_294 rfl ?_
          refine g_aload_n (pc := 296) F dL_acts_296 rfl ?_
          refine g_aload_n (pc := 297) F dL_acts_297 rfl ?_
          refine g_aload_n (pc := 298) F dL_acts_298 rfl ?_
          refine g_aload (pc := 299) F dL_acts_299 rfl ?_
          refine g_callS (pc := 301) (rf2 := 2) (rl2 := 46) F cs_L_71 (by rfl) (by rfl) (Nat.le_of_ble_eq_true (by rfl)) (by decide) dL_acts_301 (c_L_ticks _ g M (endsN S j).2 (t + j) (endsN_inv hi j (by omega))) (fun v M2 hz => ?_)
          obtain ⟨rfl, rfl⟩ := hz
          refine g_iadd (pc := 304) F dL_acts_304 ?_
          refine g_istore (pc := 305) F dL_acts_305 (by decide) rfl ?_
          refine g_iinc (pc := 307) (v := nI (j + 1)) F dL_acts_307 rfl (nI_1 j) (by decide) rfl ?_
          refine g_goto (pc := 310) (tgt := 287) F dL_acts_310 (by decide) ?_
          exact G.sub [some (.ref (ad g 0)), some (.ref (ad g 224)), some (.ref (ad g 225)), some (.ref (ad g 226)), some (.ref (ad g 227)), some (.int z), some (.int (nI y)), some (.int (nI w)), some (.int (nI ci)), some (.int (nI k)), some (.int (endsN S (j + 1)).1), some (.int (nI (j + 1)))] ⟨rfl, rfl, rfl, rfl, rfl, rfl, rfl, rfl, rfl, rfl, rfl, rfl, trivial⟩ (ih (j + 1) (by omega))
    exact G.sub [some (.ref (ad g 0)), some (.ref (ad g 224)), some (.ref (ad g 225)), some (.ref (ad g 226)), some (.ref (ad g 227)), some (.int z), some (.int (nI y)), some (.int (nI w)), some (.int (nI ci)), some (.int (nI k)), some (.int (endsN S 0).1), some (.int (nI 0))] ⟨rfl, rfl, rfl, rfl, rfl, rfl, rfl, rfl, rfl, rfl, rfl, rfl, trivial⟩ (L k 0 (by omega))
  · have eT : oTick S (nI k) = (-1000003, S) := (if_pos hkP).trans (if_neg (by rw [hi.2.2.1, nI_add]; exact c261))
    refine g_aload_n (pc := 264) F dL_acts_264 rfl ?_
    refine g_iload (pc := 265) F dL_acts_265 rfl ?_
    refine g_callV (pc := 267) (rf2 := 4) (rl2 := 104) F cs_L_60 kd0 rfl (by decide) (by rfl) (by rfl) (Nat.le_of_ble_eq_true (by rfl)) (by decide) dL_acts_267 (w_tick _ g M S S P pn hCA hAI _) (fun v M2 hz => ?_)
    obtain ⟨rfl, q1, q2, q3⟩ := hz
    rw [eT] at q1 q2 ⊢
    have eM := WM_fr q3
    rw [eM]
    refine g_ldc (pc := 270) F wk_L_33 dL_acts_270 ?_
    refine g_icmp_ne (pc := 272) (tgt := 279) F dL_acts_272 (by decide) (fun c272 => ?_) (fun c272 => ?_)
    · exact absurd rfl c272
    · refine g_iconst (pc := 275) (v := 1) F dL_acts_275 (by decide) ?_
      refine g_goto (pc := 276) (tgt := 280) F dL_acts_276 (by decide) ?_
      refine g_zret (pc := 280) F (by decide) r dL_acts_280 ?_
      rw [← eM]
      exact ⟨rfl, JP_no (show (-1000003 : Int32) < 0 by decide) q1 hAI q3 hGP⟩
set_option maxHeartbeats 4000000 in
set_option maxRecDepth 100000 in
theorem acts_ticks {X : XT} {g : Gm} (F : FX X g cL_acts 12 yL_acts.cls 6 161) (r : RX X g (some .boolean) (fun v M2 => v = some (.int 1) ∧ JP M2)) (M : Mem) (S : SV) (P : Nat → SV) (pn : Nat) (hCA : CA M (S, P, pn, fun _ => 0, 0)) (hAI : AI (S, P, pn, fun _ => 0, 0)) (hGP : GP S) (t : Nat) (ht : t ≤ 99999) (hi : Inv S t) (z : Int32) (y w ci : Nat) (hy : y < 10000000) (hci : ci < cn S) : G X g 12 (WM M S) 231 [some (.ref (ad g 0)), some (.ref (ad g 224)), some (.ref (ad g 225)), some (.ref (ad g 226)), some (.ref (ad g 227)), some (.int z), some (.int (nI y)), some (.int (nI w)), some (.int (nI ci)), none, none, none] [] := by
  have hn := hi.cn_le
  have hm := hi.gn_le
  have hci6 : ci < 6 := by omega
  refine g_iconst (pc := 231) (v := 1) F dL_acts_231 (by decide) ?_
  refine g_iload (pc := 232) F dL_acts_232 rfl ?_
  refine g_iload (pc := 234) F dL_acts_234 rfl ?_
  refine g_iconst (pc := 236) (v := 4) F dL_acts_236 (by decide) ?_
  refine g_iremN (pc := 237) (a := y) (b := 4) F rfl rfl (by omega) (by decide) (by decide) dL_acts_237 ?_
  refine g_if_ne (pc := 238) (tgt := 247) F dL_acts_238 (by decide) (fun c238 => ?_) (fun c238 => ?_)
  · refine g_bipush (pc := 247) (v := 9) F dL_acts_247 (by decide) ?_
    refine g_iremN (pc := 249) (a := y) (b := 9) F rfl rfl (by omega) (by decide) (by decide) dL_acts_249 ?_
    refine g_iaddN (pc := 250) (a := 1) (b := (y % 9)) F rfl rfl dL_acts_250 ?_
    exact G.sub [some (.ref (ad g 0)), some (.ref (ad g 224)), some (.ref (ad g 225)), some (.ref (ad g 226)), some (.ref (ad g 227)), some (.int z), some (.int (nI y)), some (.int (nI w)), some (.int (nI ci)), none, none, none] ⟨rfl, rfl, rfl, rfl, rfl, rfl, rfl, rfl, rfl, trivial⟩ (acts_tick F r M S P pn hCA hAI hGP t ht hi z y w ci hy hci (1 + y % 9) (by omega) (by omega))
  · refine g_sipush (pc := 241) (v := 200) F dL_acts_241 (by decide) ?_
    refine g_goto (pc := 244) (tgt := 249) F dL_acts_244 (by decide) ?_
    refine g_iremN (pc := 249) (a := y) (b := 200) F rfl rfl (by omega) (by decide) (by decide) dL_acts_249 ?_
    refine g_iaddN (pc := 250) (a := 1) (b := (y % 200)) F rfl rfl dL_acts_250 ?_
    exact G.sub [some (.ref (ad g 0)), some (.ref (ad g 224)), some (.ref (ad g 225)), some (.ref (ad g 226)), some (.ref (ad g 227)), some (.int z), some (.int (nI y)), some (.int (nI w)), some (.int (nI ci)), none, none, none] ⟨rfl, rfl, rfl, rfl, rfl, rfl, rfl, rfl, rfl, trivial⟩ (acts_tick F r M S P pn hCA hAI hGP t ht hi z y w ci hy hci (1 + y % 200) (by omega) (by omega))
set_option maxHeartbeats 4000000 in
set_option maxRecDepth 100000 in
theorem acts_wind {X : XT} {g : Gm} (F : FX X g cL_acts 12 yL_acts.cls 6 161) (r : RX X g (some .boolean) (fun v M2 => v = some (.int 1) ∧ JP M2)) (M : Mem) (S : SV) (P : Nat → SV) (pn : Nat) (hCA : CA M (S, P, pn, fun _ => 0, 0)) (hAI : AI (S, P, pn, fun _ => 0, 0)) (hGP : GP S) (t : Nat) (ht : t ≤ 99999) (hi : Inv S t) (z : Int32) (y w ci : Nat) (hy : y < 10000000) (hci : ci < cn S) : G X g 12 (WM M S) 106 [some (.ref (ad g 0)), some (.ref (ad g 224)), some (.ref (ad g 225)), some (.ref (ad g 226)), some (.ref (ad g 227)), some (.int z), some (.int (nI y)), some (.int (nI w)), some (.int (nI ci)), none, none, none] [] := by
  have hn := hi.cn_le
  have hm := hi.gn_le
  have hci6 : ci < 6 := by omega
  obtain ⟨x, hx, hx3⟩ := hi.2.2.2.2.1
  obtain ⟨la, a, b, c, d, p, gp, ag, sm, sq, hL, h5, hp, h6, gp1, gp2, h7, ha, -⟩ := hi.2.2.2.2.2.1 ci hci
  have hrest : restW S ci = nI (gp - ag) := by
    show cw S ci 6 - cw S ci 7 = _
    rw [h6, h7, nI_sub (by omega)]
  refine g_aload_n (pc := 106) F dL_acts_106 rfl ?_
  refine g_aload_n (pc := 107) F dL_acts_107 rfl ?_
  refine g_iload (pc := 108) F dL_acts_108 rfl ?_
  refine g_callS (pc := 110) (rf2 := 1) (rl2 := 23) F cs_L_19 (by rfl) (by rfl) (Nat.le_of_ble_eq_true (by rfl)) (by decide) dL_acts_110 (c_L_begins _ g M S ci hci6 la a b c d hL x hx hx3 p h5 hp) (fun v M2 hz => ?_)
  obtain ⟨rfl, rfl⟩ := hz
  refine G.toC ci ?_
  refine g_aload_n (pc := 113) F dL_acts_113 rfl ?_
  refine g_bipush (pc := 114) (v := 7) F dL_acts_114 (by decide) ?_
  refine g_iload (pc := 116) F dL_acts_116 rfl ?_
  refine g_imul (pc := 118) F dL_acts_118 ?_
  refine g_bipush (pc := 119) (v := 6) F dL_acts_119 (by decide) ?_
  refine g_iadd (pc := 121) F dL_acts_121 ?_
  refine g_dup2 (pc := 122) F dL_acts_122 rfl rfl ?_
  refine g_vldS (pc := 123) (i := ci) (j := 6) F (ix7 ci 6) (by omega) (by decide) dL_acts_123 ?_
  refine g_iconst (pc := 124) (v := 1) F dL_acts_124 (by decide) ?_
  refine g_iadd (pc := 125) F dL_acts_125 ?_
  refine g_vstS (pc := 126) (i := ci) (j := 6) F (ix7 ci 6) (by omega) (by decide) dL_acts_126 ?_
  refine G.sv (S' := (wnd S ci)) rfl ?_
  have eW : oWind S (nI ci) = (cw (wnd S ci) ci 6, (wnd S ci)) := by
    unfold oWind
    rw [if_pos (inC_of hi hci), ixN_nI (by omega)]
  refine g_aload_n (pc := 127) F dL_acts_127 rfl ?_
  refine g_iload (pc := 128) F dL_acts_128 rfl ?_
  refine g_callV (pc := 130) (rf2 := 4) (rl2 := 104) F cs_L_54 kd0 rfl (by decide) (by rfl) (by rfl) (Nat.le_of_ble_eq_true (by rfl)) (by decide) dL_acts_130 (w_wind _ g M S (wnd S ci) P pn hCA hAI _) (fun v M2 hz => ?_)
  obtain ⟨rfl, q1, q2, q3⟩ := hz
  rw [eW] at q1 q2 ⊢
  have eM := WM_fr q3
  rw [eM]
  refine g_aload_n (pc := 133) F dL_acts_133 rfl ?_
  refine g_bipush (pc := 134) (v := 8) F dL_acts_134 (by decide) ?_
  refine g_iload (pc := 136) F dL_acts_136 rfl ?_
  refine g_imul (pc := 138) F dL_acts_138 ?_
  refine g_bipush (pc := 139) (v := 6) F dL_acts_139 (by decide) ?_
  refine g_iadd (pc := 141) F dL_acts_141 ?_
  refine g_cld (pc := 142) (i := ci) (j := 6) F (ix8 ci 6) (by omega) (by decide) dL_acts_142 ?_
  refine g_icmp_ne (pc := 143) (tgt := 150) F dL_acts_143 (by decide) (fun c143 => ?_) (fun c143 => ?_)
  · exact absurd rfl c143
  · refine g_iconst (pc := 146) (v := 1) F dL_acts_146 (by decide) ?_
    refine g_goto (pc := 147) (tgt := 151) F dL_acts_147 (by decide) ?_
    refine g_zret (pc := 151) F (by decide) r dL_acts_151 ?_
    rw [← eM]
    refine ⟨rfl, JP_ch rfl ?_ q1 q2 q3 (GP_wnd hci6 hGP)⟩
    have hok := (ok_wind hi ht (nI ci)).1
    rw [eW] at hok
    obtain ⟨t2, -, hi2⟩ := hok
    have hcn2 : cn (wnd S ci) = cn S := (cn_setC _ _ _).1.trans (cn_beg _ _ _)
    obtain ⟨-, -, -, -, -, -, gp', -, -, -, -, -, -, h6', -, gp2', -⟩ := hi2.2.2.2.2.2.1 ci (by show ci < cn (wnd S ci); rw [hcn2]; exact hci)
    show ¬ cw (wnd S ci) ci 6 < 0
    have h6e : cw (wnd S ci) ci 6 = nI gp' := h6'
    rw [h6e]
    exact nI_nneg (by omega)
set_option maxHeartbeats 4000000 in
set_option maxRecDepth 100000 in
theorem acts_pas {X : XT} {g : Gm} (F : FX X g cL_acts 12 yL_acts.cls 6 161) (r : RX X g (some .boolean) (fun v M2 => v = some (.int 1) ∧ JP M2)) (M : Mem) (S : SV) (P : Nat → SV) (pn : Nat) (hCA : CA M (S, P, pn, fun _ => 0, 0)) (hAI : AI (S, P, pn, fun _ => 0, 0)) (hGP : GP S) (t : Nat) (ht : t ≤ 99999) (hi : Inv S t) (z : Int32) (y w ci : Nat) (hy : y < 10000000) (hci : ci < cn S) : G X g 12 (WM M S) 179 [some (.ref (ad g 0)), some (.ref (ad g 224)), some (.ref (ad g 225)), some (.ref (ad g 226)), some (.ref (ad g 227)), some (.int z), some (.int (nI y)), some (.int (nI w)), some (.int (nI ci)), none, none, none] [] := by
  have hn := hi.cn_le
  have hm := hi.gn_le
  have hci6 : ci < 6 := by omega
  obtain ⟨x, hx, hx3⟩ := hi.2.2.2.2.1
  obtain ⟨la, a, b, c, d, p, gp, ag, sm, sq, hL, h5, hp, h6, gp1, gp2, h7, ha, -⟩ := hi.2.2.2.2.2.1 ci hci
  have hrest : restW S ci = nI (gp - ag) := by
    show cw S ci 6 - cw S ci 7 = _
    rw [h6, h7, nI_sub (by omega)]
  refine G.toC ci ?_
  refine g_aload_n (pc := 179) F dL_acts_179 rfl ?_
  refine g_bipush (pc := 180) (v := 7) F dL_acts_180 (by decide) ?_
  refine g_iload (pc := 182) F dL_acts_182 rfl ?_
  refine g_imul (pc := 184) F dL_acts_184 ?_
  refine g_iconst (pc := 185) (v := 4) F dL_acts_185 (by decide) ?_
  refine g_iadd (pc := 186) F dL_acts_186 ?_
  refine g_dup2 (pc := 187) F dL_acts_187 rfl rfl ?_
  refine g_vldS (pc := 188) (i := ci) (j := 4) F (ix7 ci 4) (by omega) (by decide) dL_acts_188 ?_
  refine g_iconst (pc := 189) (v := 1) F dL_acts_189 (by decide) ?_
  refine g_iadd (pc := 190) F dL_acts_190 ?_
  refine g_vstS (pc := 191) (i := ci) (j := 4) F (ix7 ci 4) (by omega) (by decide) dL_acts_191 ?_
  refine g_aload_n (pc := 192) F dL_acts_192 rfl ?_
  refine g_bipush (pc := 193) (v := 7) F dL_acts_193 (by decide) ?_
  refine g_iload (pc := 195) F dL_acts_195 rfl ?_
  refine g_imul (pc := 197) F dL_acts_197 ?_
  refine g_iconst (pc := 198) (v := 5) F dL_acts_198 (by decide) ?_
  refine g_iadd (pc := 199) F dL_acts_199 ?_
  refine g_dup2 (pc := 200) F dL_acts_200 rfl rfl ?_
  refine g_vldS (pc := 201) (i := ci) (j := 5) F (ix7 ci 5) (by omega) (by decide) dL_acts_201 ?_
  refine g_aload_n (pc := 202) F dL_acts_202 rfl ?_
  refine g_iload (pc := 203) F dL_acts_203 rfl ?_
  refine g_callS (pc := 205) (rf2 := 0) (rl2 := 0) F cs_L_67 (by rfl) (by rfl) (Nat.le_of_ble_eq_true (by rfl)) (by decide) dL_acts_205 (c_L_rest _ g M _ ci hci6) (fun v M2 hz => ?_)
  obtain ⟨rfl, rfl⟩ := hz
  rw [show restW (setC S ci (upd (cw S ci) (8 + 4) (cw S ci (8 + 4) + 1))) ci = restW S ci by
    show cw _ ci 6 - cw _ ci 7 = _
    rw [cw_setC _ _ _ (by decide), cw_setC _ _ _ (by decide)] <;> rfl]
  refine g_iadd (pc := 208) F dL_acts_208 ?_
  refine g_vstS (pc := 209) (i := ci) (j := 5) F (ix7 ci 5) (by omega) (by decide) dL_acts_209 ?_
  refine G.sv (S' := pasC S ci) rfl ?_
  have eP : oPass S (nI ci) = (restW S ci, pasC S ci) := by
    unfold oPass
    rw [if_pos (inC_of hi hci), ixN_nI (by omega)]
  refine g_aload_n (pc := 210) F dL_acts_210 rfl ?_
  refine g_iload (pc := 211) F dL_acts_211 rfl ?_
  refine g_callV (pc := 213) (rf2 := 4) (rl2 := 104) F cs_L_57 kd0 rfl (by decide) (by rfl) (by rfl) (Nat.le_of_ble_eq_true (by rfl)) (by decide) dL_acts_213 (w_passenger _ g M S (pasC S ci) P pn hCA hAI _) (fun v M2 hz => ?_)
  obtain ⟨rfl, q1, q2, q3⟩ := hz
  rw [eP] at q1 q2 ⊢
  have eM := WM_fr q3
  rw [eM]
  refine g_aload_n (pc := 216) F dL_acts_216 rfl ?_
  refine g_iload (pc := 217) F dL_acts_217 rfl ?_
  refine g_callS (pc := 219) (rf2 := 0) (rl2 := 0) F cs_L_67 (by rfl) (by rfl) (Nat.le_of_ble_eq_true (by rfl)) (by decide) dL_acts_219 (c_L_rest _ g M2 (pasC S ci) ci hci6) (fun v3 M3 hz3 => ?_)
  obtain ⟨rfl, rfl⟩ := hz3
  refine g_icmp_ne (pc := 222) (tgt := 229) F dL_acts_222 (by decide) (fun c222 => ?_) (fun c222 => ?_)
  · exact absurd (by
      show restW S ci = cw (pasC S ci) ci 6 - cw (pasC S ci) ci 7
      unfold pasC
      rw [cw_setC _ _ _ (by decide), cw_setC _ _ _ (by decide)] <;> rfl) c222
  · refine g_iconst (pc := 225) (v := 1) F dL_acts_225 (by decide) ?_
    refine g_goto (pc := 226) (tgt := 230) F dL_acts_226 (by decide) ?_
    refine g_zret (pc := 230) F (by decide) r dL_acts_230 ?_
    rw [← eM]
    refine ⟨rfl, JP_ch rfl ?_ q1 q2 q3 (GP_pas hci6 hGP)⟩
    show ¬ restW S ci < 0
    rw [hrest]
    exact nI_nneg (by omega)
set_option maxHeartbeats 4000000 in
set_option maxRecDepth 100000 in
theorem c_L_acts (l : Launch) (g : Gm) (M : Mem) (S : SV) (hJ : J M S) (z : Int32) : Cn l yL_acts cL_acts 12 (some .boolean) 6 161 g [.ref (ad g 0), .ref (ad g 224), .ref (ad g 225), .ref (ad g 226), .ref (ad g 227), .int z] (WM M S) (fun v M2 => v = some (.int 1) ∧ JP M2) := by
  refine Cn.intro (lv0 := [some (.ref (ad g 0)), some (.ref (ad g 224)), some (.ref (ad g 225)), some (.ref (ad g 226)), some (.ref (ad g 227)), some (.int z), none, none, none, none, none, none]) 6 (by decide +kernel) (Nat.le_of_ble_eq_true rfl) rfl (fun X F r => ?_)
  have hJ0 := hJ
  obtain ⟨P, pn, hCA, hAI, hGP⟩ := hJ0
  obtain ⟨t, ht, hi0⟩ := hAI.1
  have hi : Inv S t := hi0
  have hn := hi.cn_le
  have hm := hi.gn_le
  obtain ⟨x, hx, hx3⟩ := hi.2.2.2.2.1
  refine g_iload (pc := 0) F dL_acts_0 rfl ?_
  refine g_iconst (pc := 2) (v := 5) F dL_acts_2 (by decide) ?_
  refine g_ishr (pc := 3) F dL_acts_3 ?_
  refine g_ldc (pc := 4) F wk_L_46 dL_acts_4 ?_
  refine g_callS (pc := 6) (rf2 := 0) (rl2 := 0) F cs_L_47 (by rfl) (by rfl) (Nat.le_of_ble_eq_true (by rfl)) (by decide) dL_acts_6 (c_L_low _ g (WM M S) _ 10000000 (by decide) (by decide)) (fun v M2 hz => ?_)
  obtain ⟨⟨y, hy, rfl⟩, rfl⟩ := hz
  refine g_istore (pc := 9) F dL_acts_9 (by decide) rfl ?_
  refine g_iload (pc := 11) F dL_acts_11 rfl ?_
  refine g_bipush (pc := 13) (v := 32) F dL_acts_13 (by decide) ?_
  refine g_callS (pc := 15) (rf2 := 0) (rl2 := 0) F cs_L_47 (by rfl) (by rfl) (Nat.le_of_ble_eq_true (by rfl)) (by decide) dL_acts_15 (c_L_low _ g (WM M S) _ 32 (by decide) (by decide)) (fun v M2 hz => ?_)
  obtain ⟨⟨w, hw, rfl⟩, rfl⟩ := hz
  refine g_istore (pc := 18) F dL_acts_18 (by decide) rfl ?_
  refine g_iload (pc := 20) F dL_acts_20 rfl ?_
  refine g_bipush (pc := 22) (v := 7) F dL_acts_22 (by decide) ?_
  refine g_icmp_ge (pc := 24) (tgt := 37) F dL_acts_24 (by decide) (fun c24 => ?_) (fun c24 => ?_)
  · refine g_aload_n (pc := 37) F dL_acts_37 rfl ?_
    refine g_iconst (pc := 38) (v := 0) F dL_acts_38 (by decide) ?_
    refine g_gld (pc := 39) (j := 0) F rfl (by decide) dL_acts_39 ?_
    refine g_if_ne (pc := 40) (tgt := 91) F dL_acts_40 (by decide) (fun c40 => ?_) (fun c40 => ?_)
    · have hc0 : 0 < cn S := by
        have h4 : cn S ≠ 0 := fun e => c40 (by rw [hn.2, e]; rfl)
        omega
      refine g_iload (pc := 91) F dL_acts_91 rfl ?_
      refine g_aload_n (pc := 93) F dL_acts_93 rfl ?_
      refine g_iconst (pc := 94) (v := 0) F dL_acts_94 (by decide) ?_
      refine g_gld (pc := 95) (j := 0) F rfl (by decide) dL_acts_95 ?_
      rw [hn.2]
      refine g_iremN (pc := 96) (a := y) (b := (cn S)) F rfl rfl (by omega) hc0 (by omega) dL_acts_96 ?_
      have hci : y % cn S < cn S := Nat.mod_lt _ hc0
      obtain ⟨ci, eci⟩ : ∃ ci, ci = y % cn S := ⟨_, rfl⟩
      rw [← eci] at hci ⊢
      refine g_istore (pc := 97) F dL_acts_97 (by decide) rfl ?_
      refine g_iload (pc := 99) F dL_acts_99 rfl ?_
      refine g_bipush (pc := 101) (v := 9) F dL_acts_101 (by decide) ?_
      refine g_icmp_ge (pc := 103) (tgt := 152) F dL_acts_103 (by decide) (fun c103 => ?_) (fun c103 => ?_)
      · refine g_iload (pc := 152) F dL_acts_152 rfl ?_
        refine g_bipush (pc := 154) (v := 19) F dL_acts_154 (by decide) ?_
        refine g_icmp_ge (pc := 156) (tgt := 172) F dL_acts_156 (by decide) (fun c156 => ?_) (fun c156 => ?_)
        · refine g_iload (pc := 172) F dL_acts_172 rfl ?_
          refine g_bipush (pc := 174) (v := 24) F dL_acts_174 (by decide) ?_
          refine g_icmp_ge (pc := 176) (tgt := 231) F dL_acts_176 (by decide) (fun c176 => ?_) (fun c176 => ?_)
          · exact G.sub [some (.ref (ad g 0)), some (.ref (ad g 224)), some (.ref (ad g 225)), some (.ref (ad g 226)), some (.ref (ad g 227)), some (.int z), some (.int (nI y)), some (.int (nI w)), some (.int (nI ci)), none, none, none] ⟨rfl, rfl, rfl, rfl, rfl, rfl, rfl, rfl, rfl, trivial⟩ (acts_ticks F r M S P pn hCA hAI hGP t ht hi z y w ci hy hci)
          · exact G.sub [some (.ref (ad g 0)), some (.ref (ad g 224)), some (.ref (ad g 225)), some (.ref (ad g 226)), some (.ref (ad g 227)), some (.int z), some (.int (nI y)), some (.int (nI w)), some (.int (nI ci)), none, none, none] ⟨rfl, rfl, rfl, rfl, rfl, rfl, rfl, rfl, rfl, trivial⟩ (acts_pas F r M S P pn hCA hAI hGP t ht hi z y w ci hy hci)
        · refine g_aload_n (pc := 159) F dL_acts_159 rfl ?_
          refine g_aload_n (pc := 160) F dL_acts_160 rfl ?_
          refine g_aload_n (pc := 161) F dL_acts_161 rfl ?_
          refine g_aload (pc := 162) F dL_acts_162 rfl ?_
          refine g_iload (pc := 164) F dL_acts_164 rfl ?_
          refine g_iload (pc := 166) F dL_acts_166 rfl ?_
          refine g_callS (pc := 168) (rf2 := 5) (rl2 := 126) F cs_L_63 (by rfl) (by rfl) (Nat.le_of_ble_eq_true (by rfl)) (by decide) dL_acts_168 (c_L_joins _ g M S hJ hc0 w hw y hy) (fun v M2 hz => ?_)
          obtain ⟨rfl, hJP⟩ := hz
          refine g_zret (pc := 171) F (by decide) r dL_acts_171 ?_
          exact ⟨rfl, hJP⟩
      · exact G.sub [some (.ref (ad g 0)), some (.ref (ad g 224)), some (.ref (ad g 225)), some (.ref (ad g 226)), some (.ref (ad g 227)), some (.int z), some (.int (nI y)), some (.int (nI w)), some (.int (nI ci)), none, none, none] ⟨rfl, rfl, rfl, rfl, rfl, rfl, rfl, rfl, rfl, trivial⟩ (acts_wind F r M S P pn hCA hAI hGP t ht hi z y w ci hy hci)
    · have hno : ¬ inC S 0 := fun e => by
        have h2 := e.2
        rw [c40] at h2
        exact Int32.lt_irrefl h2
      have eW : oWind S 0 = (-1000001, S) := if_neg hno
      have eP : oPass S 0 = (-1000001, S) := if_neg hno
      have eT0 : oTick S 0 = (-1000001, S) := if_neg (fun e => absurd e.1 (by decide))
      have eT1 : oTick S 201 = (-1000001, S) := if_neg (fun e => absurd e.2 (by decide))
      refine g_aload_n (pc := 43) F dL_acts_43 rfl ?_
      refine g_iconst (pc := 44) (v := 0) F dL_acts_44 (by decide) ?_
      refine g_callV (pc := 45) (rf2 := 4) (rl2 := 104) F cs_L_54 kd0 rfl (by decide) (by rfl) (by rfl) (Nat.le_of_ble_eq_true (by rfl)) (by decide) dL_acts_45 (w_wind _ g M S S P pn hCA hAI _) (fun v2 M2 hz2 => ?_)
      obtain ⟨rfl, a2, b2, f2⟩ := hz2
      rw [eW] at a2 b2 ⊢
      have hCA2 := CA_no (show (-1000001 : Int32) < 0 by decide) a2
      have eM2 := WM_fr f2
      rw [eM2]
      refine g_ldc (pc := 48) F wk_L_41 dL_acts_48 ?_
      refine g_icmp_ne (pc := 50) (tgt := 89) F dL_acts_50 (by decide) (fun c50 => ?_) (fun c50 => ?_)
      · exact absurd rfl c50
      · refine g_aload_n (pc := 53) F dL_acts_53 rfl ?_
        refine g_iconst (pc := 54) (v := 0) F dL_acts_54 (by decide) ?_
        refine g_callV (pc := 55) (rf2 := 4) (rl2 := 104) F cs_L_57 kd0 rfl (by decide) (by rfl) (by rfl) (Nat.le_of_ble_eq_true (by rfl)) (by decide) dL_acts_55 (w_passenger _ g M2 S S P pn hCA2 hAI _) (fun v3 M3 hz3 => ?_)
        obtain ⟨rfl, a3, b3, f3⟩ := hz3
        rw [eP] at a3 b3 ⊢
        have hCA3 := CA_no (show (-1000001 : Int32) < 0 by decide) a3
        have eM3 := WM_fr f3
        rw [eM3]
        refine g_ldc (pc := 58) F wk_L_41 dL_acts_58 ?_
        refine g_icmp_ne (pc := 60) (tgt := 89) F dL_acts_60 (by decide) (fun c60 => ?_) (fun c60 => ?_)
        · exact absurd rfl c60
        · refine g_aload_n (pc := 63) F dL_acts_63 rfl ?_
          refine g_iconst (pc := 64) (v := 0) F dL_acts_64 (by decide) ?_
          refine g_callV (pc := 65) (rf2 := 4) (rl2 := 104) F cs_L_60 kd0 rfl (by decide) (by rfl) (by rfl) (Nat.le_of_ble_eq_true (by rfl)) (by decide) dL_acts_65 (w_tick _ g M3 S S P pn hCA3 hAI _) (fun v4 M4 hz4 => ?_)
          obtain ⟨rfl, a4, b4, f4⟩ := hz4
          rw [eT0] at a4 b4 ⊢
          have hCA4 := CA_no (show (-1000001 : Int32) < 0 by decide) a4
          have eM4 := WM_fr f4
          rw [eM4]
          refine g_ldc (pc := 68) F wk_L_41 dL_acts_68 ?_
          refine g_icmp_ne (pc := 70) (tgt := 89) F dL_acts_70 (by decide) (fun c70 => ?_) (fun c70 => ?_)
          · exact absurd rfl c70
          · refine g_aload_n (pc := 73) F dL_acts_73 rfl ?_
            refine g_sipush (pc := 74) (v := 201) F dL_acts_74 (by decide) ?_
            refine g_callV (pc := 77) (rf2 := 4) (rl2 := 104) F cs_L_60 kd0 rfl (by decide) (by rfl) (by rfl) (Nat.le_of_ble_eq_true (by rfl)) (by decide) dL_acts_77 (w_tick _ g M4 S S P pn hCA4 hAI _) (fun v5 M5 hz5 => ?_)
            obtain ⟨rfl, a5, b5, f5⟩ := hz5
            rw [eT1] at a5 b5 ⊢
            have hCA5 := CA_no (show (-1000001 : Int32) < 0 by decide) a5
            have eM5 := WM_fr f5
            rw [eM5]
            refine g_ldc (pc := 80) F wk_L_41 dL_acts_80 ?_
            refine g_icmp_ne (pc := 82) (tgt := 89) F dL_acts_82 (by decide) (fun c82 => ?_) (fun c82 => ?_)
            · exact absurd rfl c82
            · refine g_iconst (pc := 85) (v := 1) F dL_acts_85 (by decide) ?_
              refine g_goto (pc := 86) (tgt := 90) F dL_acts_86 (by decide) ?_
              refine g_zret (pc := 90) F (by decide) r dL_acts_90 ?_
              exact ⟨rfl, M5, S, rfl, P, pn, hCA5, hAI, hGP⟩
  · refine g_aload_n (pc := 27) F dL_acts_27 rfl ?_
    refine g_aload_n (pc := 28) F dL_acts_28 rfl ?_
    refine g_aload_n (pc := 29) F dL_acts_29 rfl ?_
    refine g_aload_n (pc := 30) F dL_acts_30 rfl ?_
    refine g_iload (pc := 31) F dL_acts_31 rfl ?_
    refine g_callS (pc := 33) (rf2 := 5) (rl2 := 129) F cs_L_50 (by rfl) (by rfl) (Nat.le_of_ble_eq_true (by rfl)) (by decide) dL_acts_33 (c_L_comes _ g M S hJ y hy) (fun v M2 hz => ?_)
    obtain ⟨rfl, hJP⟩ := hz
    refine g_zret (pc := 36) F (by decide) r dL_acts_36 ?_
    exact ⟨rfl, hJP⟩
