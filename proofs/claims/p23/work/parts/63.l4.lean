/-! groups in the law -/
theorem bit_in : ∀ z, z < 64 → ∀ i, i < 6 → (nI z &&& ((1 : Int32) <<< (nI i &&& 31)) ≤ 0 ↔ nI z &&& ((1 : Int32) <<< (nI i &&& 31)) = 0) := by decide +kernel
theorem bit_join1 : ∀ z, z < 64 → ∀ i, i < 6 → nI z &&& ((1 : Int32) <<< (nI i &&& 31)) = 0 → nI z + ((1 : Int32) <<< (nI i &&& 31)) = nI z ||| ((1 : Int32) <<< (nI i &&& 31)) ∧ jbc (nI z ||| ((1 : Int32) <<< (nI i &&& 31))) = nI (pop6 z) + 1 := by decide +kernel
theorem bit_join2 : ∀ z, z < 64 → ∀ i, i < 6 → ∀ j, j < 6 → j = i ∨ nI z &&& ((1 : Int32) <<< (nI j &&& 31)) = (nI z ||| ((1 : Int32) <<< (nI i &&& 31))) &&& ((1 : Int32) <<< (nI j &&& 31)) := by decide +kernel
theorem bit_join {z : Nat} (hz : z < 64) {i : Nat} (hi : i < 6) (h : nI z &&& ((1 : Int32) <<< (nI i &&& 31)) = 0) : nI z + ((1 : Int32) <<< (nI i &&& 31)) = nI z ||| ((1 : Int32) <<< (nI i &&& 31)) ∧ jbc (nI z ||| ((1 : Int32) <<< (nI i &&& 31))) = nI (pop6 z) + 1 ∧ ∀ j, j < 6 → ¬ ((nI z ||| ((1 : Int32) <<< (nI i &&& 31))) &&& ((1 : Int32) <<< (nI j &&& 31)) = 0) → j = i ∨ ¬ (nI z &&& ((1 : Int32) <<< (nI j &&& 31)) = 0) :=
  ⟨(bit_join1 z hz i hi h).1, (bit_join1 z hz i hi h).2, fun j hj hn => (bit_join2 z hz i hi j hj).imp id (fun e => by rw [e]; exact hn)⟩
theorem bit_leave1 : ∀ z, z < 64 → ∀ i, i < 6 → nI z &&& ((1 : Int32) <<< (nI i &&& 31)) = 0 ∨ (nI z - ((1 : Int32) <<< (nI i &&& 31)) = nI z &&& (((1 : Int32) <<< (nI i &&& 31)) ^^^ (-1 : Int32)) ∧ jbc (nI z &&& (((1 : Int32) <<< (nI i &&& 31)) ^^^ (-1 : Int32))) = nI (pop6 z) - 1) := by decide +kernel
theorem bit_leave2 : ∀ z, z < 64 → ∀ i, i < 6 → ∀ j, j < 6 → (nI z &&& (((1 : Int32) <<< (nI i &&& 31)) ^^^ (-1 : Int32))) &&& ((1 : Int32) <<< (nI j &&& 31)) = 0 ∨ (nI z &&& (((1 : Int32) <<< (nI i &&& 31)) ^^^ (-1 : Int32))) &&& ((1 : Int32) <<< (nI j &&& 31)) = nI z &&& ((1 : Int32) <<< (nI j &&& 31)) := by decide +kernel
theorem bit_leave {z : Nat} (hz : z < 64) {i : Nat} (hi : i < 6) (h : ¬ nI z &&& ((1 : Int32) <<< (nI i &&& 31)) = 0) : nI z - ((1 : Int32) <<< (nI i &&& 31)) = nI z &&& (((1 : Int32) <<< (nI i &&& 31)) ^^^ (-1 : Int32)) ∧ jbc (nI z &&& (((1 : Int32) <<< (nI i &&& 31)) ^^^ (-1 : Int32))) = nI (pop6 z) - 1 ∧ ∀ j, j < 6 → ¬ ((nI z &&& (((1 : Int32) <<< (nI i &&& 31)) ^^^ (-1 : Int32))) &&& ((1 : Int32) <<< (nI j &&& 31)) = 0) → ¬ (nI z &&& ((1 : Int32) <<< (nI j &&& 31)) = 0) :=
  ⟨((bit_leave1 z hz i hi).resolve_left h).1, ((bit_leave1 z hz i hi).resolve_left h).2, fun j hj hn e => hn (((bit_leave2 z hz i hi j hj).resolve_left hn).trans e)⟩
theorem join_eq {S : SV} {t gi ci : Nat} (hi : Inv S t) (hg : gi < gn S) (hc : ci < cn S) : oJoin S (nI gi) (nI ci) = (if cw S ci 0 ≠ gw S gi 0 ∨ isIn (gw S gi 1) ci then (-1000002, S) else if jbc (gw S gi 1) < 4 then (jbc (gw S gi 1 ||| (1 <<< (nI ci &&& 31))), mem1 S gi (gw S gi 1 ||| (1 <<< (nI ci &&& 31)))) else (-1000003, S)) := by
  have h6 := hi.cn_le.1
  have h4 := hi.gn_le.1
  unfold oJoin
  rw [if_pos ⟨inG_of hi hg, inC_of hi hc⟩, ixN_nI (by omega), ixN_nI (by omega)]
theorem leave_eq {S : SV} {t gi ci : Nat} (hi : Inv S t) (hg : gi < gn S) (hc : ci < cn S) : oLeave S (nI gi) (nI ci) = (if isIn (gw S gi 1) ci then (jbc (gw S gi 1 &&& ((1 <<< (nI ci &&& 31)) ^^^ -1)), mem1 S gi (gw S gi 1 &&& ((1 <<< (nI ci &&& 31)) ^^^ -1))) else (-1000002, S)) := by
  have h6 := hi.cn_le.1
  have h4 := hi.gn_le.1
  unfold oLeave
  rw [if_pos ⟨inG_of hi hg, inC_of hi hc⟩, ixN_nI (by omega), ixN_nI (by omega)]
theorem setGr_cn (S : SV) (i : Nat) (w : Nat → Int32) : cn (setGr S i w) = cn S ∧ gn (setGr S i w) = gn S := by
  unfold cn gn
  rw [setGr_lo _ _ _ (by decide), setGr_lo _ _ _ (by decide)]
  exact ⟨rfl, rfl⟩
theorem GP_mem {S : SV} {t gi : Nat} {z : Int32} (hi : Inv S t) (h : GP S) (hz : ∀ i, i < 6 → isIn z i → i < cn S ∧ cw S i 0 = gw S gi 0) : GP (mem1 S gi z) := by
  obtain ⟨e1, e2⟩ := setGr_cn S gi (upd (gw S gi) 1 z)
  intro k hk i hi6 hin
  unfold mem1 at hk hin ⊢
  rw [e2] at hk
  rw [e1, cw_setGr _ _ _ hi6 (by decide)]
  by_cases hkg : k = gi
  · rw [hkg, gw_setGr _ _ _ (by decide), upd_self] at hin
    rw [hkg, gw_setGr _ _ _ (by decide), upd_ne _ _ (by decide)]
    exact hz i hi6 hin
  · rw [gw_setGr_ne _ _ (by decide) hkg] at hin
    rw [gw_setGr_ne _ _ (by decide) hkg]
    exact h k hk i hi6 hin
theorem GP_grp {S : SV} {t : Nat} {la : Int32} (hi : Inv S t) (h : GP S) (h4 : gn S < 4) : GP (upd (setGr S (gn S) (g0 la)) 1 (S 1 + 1)) := by
  have e1 : gn (upd (setGr S (gn S) (g0 la)) 1 (S 1 + 1)) = gn S + 1 := by
    refine gn_of (n := gn S + 1) ?_ (by omega)
    rw [upd_self, hi.gn_le.2, nI_1]
  have e2 : cn (upd (setGr S (gn S) (g0 la)) 1 (S 1 + 1)) = cn S := by
    unfold cn
    rw [upd_ne _ _ (by decide), setGr_lo _ _ _ (by decide)]
  intro k hk i hi6 hin
  rw [e1] at hk
  rw [gw_upd_lo _ _ _ (by decide)] at hin ⊢
  rw [e2, cw_upd_lo _ _ _ (by decide), cw_setGr _ _ _ hi6 (by decide)]
  by_cases hkg : k = gn S
  · rw [hkg, gw_setGr _ _ _ (by decide)] at hin
    refine absurd ?_ hin
    show (0 : Int32) &&& _ = 0
    exact Int32.zero_and
  · rw [gw_setGr_ne _ _ (by decide) hkg] at hin ⊢
    exact h k (by omega) i hi6 hin
theorem bit_pos : ∀ z, z < 64 → ∀ i, i < 6 → ¬ nI z &&& (1 <<< (nI i &&& 31)) = 0 → 1 ≤ pop6 z := by decide +kernel
set_option maxHeartbeats 4000000 in
set_option maxRecDepth 100000 in
theorem c_L_joins (l : Launch) (g : Gm) (M : Mem) (S : SV) (hJ : J M S) (hc0 : 0 < cn S) (w : Nat) (hw : w < 32) (y : Nat) (hy : y < 10000000) : Cn l yL_joins cL_joins 10 (some .boolean) 5 126 g [.ref (ad g 0), .ref (ad g 224), .ref (ad g 225), .ref (ad g 227), .int (nI w), .int (nI y)] (WM M S) (fun v M2 => v = some (.int 1) ∧ JP M2) := by
  refine Cn.intro (lv0 := [some (.ref (ad g 0)), some (.ref (ad g 224)), some (.ref (ad g 225)), some (.ref (ad g 227)), some (.int (nI w)), some (.int (nI y)), none, none, none, none]) 4 (by decide +kernel) (Nat.le_of_ble_eq_true rfl) rfl (fun X F r => ?_)
  obtain ⟨P, pn, hCA, hAI, hGP⟩ := hJ
  obtain ⟨t, ht, hi0⟩ := hAI.1
  have hi : Inv S t := hi0
  have hn := hi.cn_le
  have hm := hi.gn_le
  have hlaw : lawP (nI (y % 3)) := ⟨nI_pos' (by omega), (nI_leI (b := 2) (by omega) (by decide)).mpr (by omega)⟩
  refine g_iload (pc := 0) F dL_joins_0 rfl ?_
  refine g_bipush (pc := 2) (v := 12) F dL_joins_2 (by decide) ?_
  refine g_icmp_ge (pc := 4) (tgt := 103) F dL_joins_4 (by decide) (fun c4 => ?_) (fun c4 => ?_)
  · refine g_aload_n (pc := 103) F dL_joins_103 rfl ?_
    refine g_iconst (pc := 104) (v := 1) F dL_joins_104 (by decide) ?_
    refine g_gld (pc := 105) (j := 1) F rfl (by decide) dL_joins_105 ?_
    refine g_if_ne (pc := 106) (tgt := 137) F dL_joins_106 (by decide) (fun c106 => ?_) (fun c106 => ?_)
    · have hg0 : 0 < gn S := by
        have h4 : gn S ≠ 0 := fun e => c106 (by rw [hm.2, e]; rfl)
        omega
      have hgi : y % gn S < gn S := Nat.mod_lt _ hg0
      obtain ⟨gi, egi⟩ : ∃ gi, gi = y % gn S := ⟨_, rfl⟩
      rw [← egi] at hgi
      obtain ⟨gla, z, mt, -, -, hz1, hz6, hz4, -, -⟩ := hi.2.2.2.2.2.2 gi hgi
      have T211 : ∀ ci : Nat, ci < cn S → G X g 10 (WM M S) 211 [some (.ref (ad g 0)), some (.ref (ad g 224)), some (.ref (ad g 225)), some (.ref (ad g 227)), some (.int (nI w)), some (.int (nI y)), some (.int (nI gi)), some (.int (nI ci)), none, none] [] := by
        intro ci hci
        have T234 : ∀ b8 : Int32, (b8 = 0 ↔ ¬ isIn (gw S gi 1) ci) → G X g 10 (WM M S) 234 [some (.ref (ad g 0)), some (.ref (ad g 224)), some (.ref (ad g 225)), some (.ref (ad g 227)), some (.int (nI w)), some (.int (nI y)), some (.int (nI gi)), some (.int (nI ci)), some (.int b8), none] [] := by
          intro b8 hb8
          refine g_aload_n (pc := 234) F dL_joins_234 rfl ?_
          refine g_iconst (pc := 235) (v := 4) F dL_joins_235 (by decide) ?_
          refine g_iload (pc := 236) F dL_joins_236 rfl ?_
          refine g_imul (pc := 238) F dL_joins_238 ?_
          refine g_iconst (pc := 239) (v := 1) F dL_joins_239 (by decide) ?_
          refine g_iadd (pc := 240) F dL_joins_240 ?_
          refine g_qld (pc := 241) (i := gi) (j := 1) F (ix4 gi 1) (by omega) (by decide) dL_joins_241 ?_
          rw [hz1]
          refine g_callS (pc := 242) (rf2 := 0) (rl2 := 0) F cs_L_23 (by rfl) (by rfl) (Nat.le_of_ble_eq_true (by rfl)) (by decide) dL_joins_242 (c_L_bitsOf _ g _ z hz6) (fun v M2 hz => ?_)
          obtain ⟨rfl, rfl⟩ := hz
          refine g_istore (pc := 245) F dL_joins_245 (by decide) rfl ?_
          refine g_iload (pc := 247) F dL_joins_247 rfl ?_
          refine g_bipush (pc := 249) (v := 18) F dL_joins_249 (by decide) ?_
          refine g_icmp_ge (pc := 251) (tgt := 362) F dL_joins_251 (by decide) (fun c251 => ?_) (fun c251 => ?_)
          · refine g_iload (pc := 362) F dL_joins_362 rfl ?_
            refine g_if_ne (pc := 364) (tgt := 386) F dL_joins_364 (by decide) (fun c364 => ?_) (fun c364 => ?_)
            · have hin8 : isIn (gw S gi 1) ci := Classical.byContradiction fun e => c364 (hb8.mpr e)
              obtain ⟨k1, k2, k3⟩ := bit_leave hz6 (i := ci) (by omega) (by rw [← hz1]; exact hin8)
              have hpos : 1 ≤ pop6 z := bit_pos z hz6 ci (by omega) (by rw [← hz1]; exact hin8)
              have eL : oLeave S (nI gi) (nI ci) = (jbc (gw S gi 1 &&& ((1 <<< (nI ci &&& 31)) ^^^ -1)), mem1 S gi (gw S gi 1 &&& ((1 <<< (nI ci &&& 31)) ^^^ -1))) := (leave_eq hi hgi hci).trans (if_pos hin8)
              refine G.toG gi ?_
              refine g_aload_n (pc := 386) F dL_joins_386 rfl ?_
              refine g_iconst (pc := 387) (v := 4) F dL_joins_387 (by decide) ?_
              refine g_iload (pc := 388) F dL_joins_388 rfl ?_
              refine g_imul (pc := 390) F dL_joins_390 ?_
              refine g_iconst (pc := 391) (v := 1) F dL_joins_391 (by decide) ?_
              refine g_iadd (pc := 392) F dL_joins_392 ?_
              refine g_dup2 (pc := 393) F dL_joins_393 rfl rfl ?_
              refine g_qldS (pc := 394) (i := gi) (j := 1) F (ix4 gi 1) (by omega) (by decide) dL_joins_394 ?_
              refine g_iconst (pc := 395) (v := 1) F dL_joins_395 (by decide) ?_
              refine g_iload (pc := 396) F dL_joins_396 rfl ?_
              refine g_ishl (pc := 398) F dL_joins_398 ?_
              refine g_isub (pc := 399) F dL_joins_399 ?_
              refine g_qstS (pc := 400) (i := gi) (j := 1) F (ix4 gi 1) (by omega) (by decide) dL_joins_400 ?_
              refine G.sv (S' := mem1 S gi (gw S gi 1 &&& ((1 <<< (nI ci &&& 31)) ^^^ -1))) (by unfold mem1; rw [hz1, k1]) ?_
              refine g_aload_n (pc := 401) F dL_joins_401 rfl ?_
              refine g_iload (pc := 402) F dL_joins_402 rfl ?_
              refine g_iload (pc := 404) F dL_joins_404 rfl ?_
              refine g_callV (pc := 406) (rf2 := 4) (rl2 := 104) F cs_L_42 kd0 rfl (by decide) (by rfl) (by rfl) (Nat.le_of_ble_eq_true (by rfl)) (by decide) dL_joins_406 (w_leave _ g M S (mem1 S gi (gw S gi 1 &&& ((1 <<< (nI ci &&& 31)) ^^^ -1))) P pn hCA hAI _ _) (fun v M2 hz => ?_)
              obtain ⟨rfl, q1, q2, q3⟩ := hz
              rw [eL] at q1 q2 ⊢
              have eM := WM_fr q3
              rw [eM]
              refine g_iload (pc := 409) F dL_joins_409 rfl ?_
              refine g_iconst (pc := 411) (v := 1) F dL_joins_411 (by decide) ?_
              refine g_isub (pc := 412) F dL_joins_412 ?_
              refine g_icmp_ne (pc := 413) (tgt := 420) F dL_joins_413 (by decide) (fun c413 => ?_) (fun c413 => ?_)
              · exact absurd (by rw [hz1]; exact k2) c413
              · refine g_iconst (pc := 416) (v := 1) F dL_joins_416 (by decide) ?_
                refine g_goto (pc := 417) (tgt := 421) F dL_joins_417 (by decide) ?_
                refine g_zret (pc := 421) F (by decide) r dL_joins_421 ?_
                rw [← eM]
                refine ⟨rfl, JP_ch rfl ?_ q1 q2 q3 (GP_mem hi hGP (fun i hi6 hin => ?_))⟩
                · show ¬ jbc (gw S gi 1 &&& _) < 0
                  rw [hz1, k2, show nI (pop6 z) - 1 = nI (pop6 z - 1) from nI_sub (b := 1) hpos]
                  exact nI_nneg (by omega)
                · rw [hz1] at hin
                  exact hGP gi hgi i hi6 (by rw [hz1]; exact k3 i hi6 hin)
            · refine g_aload_n (pc := 367) F dL_joins_367 rfl ?_
              refine g_iload (pc := 368) F dL_joins_368 rfl ?_
              refine g_iload (pc := 370) F dL_joins_370 rfl ?_
              have eL : oLeave S (nI gi) (nI ci) = (-1000002, S) := (leave_eq hi hgi hci).trans (if_neg (hb8.mp c364))
              refine g_callV (pc := 372) (rf2 := 4) (rl2 := 104) F cs_L_42 kd0 rfl (by decide) (by rfl) (by rfl) (Nat.le_of_ble_eq_true (by rfl)) (by decide) dL_joins_372 (w_leave _ g M S S P pn hCA hAI _ _) (fun v M2 hz => ?_)
              obtain ⟨rfl, q1, q2, q3⟩ := hz
              rw [eL] at q1 q2 ⊢
              have eM := WM_fr q3
              rw [eM]
              refine g_ldc (pc := 375) F wk_L_45 dL_joins_375 ?_
              refine g_icmp_ne (pc := 377) (tgt := 384) F dL_joins_377 (by decide) (fun c377 => ?_) (fun c377 => ?_)
              · exact absurd rfl c377
              · refine g_iconst (pc := 380) (v := 1) F dL_joins_380 (by decide) ?_
                refine g_goto (pc := 381) (tgt := 385) F dL_joins_381 (by decide) ?_
                refine g_zret (pc := 385) F (by decide) r dL_joins_385 ?_
                rw [← eM]
                exact ⟨rfl, JP_no (show (-1000002 : Int32) < 0 by decide) q1 hAI q3 hGP⟩
          · refine g_iload (pc := 254) F dL_joins_254 rfl ?_
            refine g_if_ne (pc := 256) (tgt := 281) F dL_joins_256 (by decide) (fun c256 => ?_) (fun c256 => ?_)
            · refine g_aload_n (pc := 281) F dL_joins_281 rfl ?_
              refine g_iload (pc := 282) F dL_joins_282 rfl ?_
              refine g_iload (pc := 284) F dL_joins_284 rfl ?_
              have eJ : oJoin S (nI gi) (nI ci) = (-1000002, S) := (join_eq hi hgi hci).trans (if_pos (Or.inr (Classical.byContradiction fun e => c256 (hb8.mpr e))))
              refine g_callV (pc := 286) (rf2 := 4) (rl2 := 104) F cs_L_37 kd0 rfl (by decide) (by rfl) (by rfl) (Nat.le_of_ble_eq_true (by rfl)) (by decide) dL_joins_286 (w_join _ g M S S P pn hCA hAI _ _) (fun v M2 hz => ?_)
              obtain ⟨rfl, q1, q2, q3⟩ := hz
              rw [eJ] at q1 q2 ⊢
              have eM := WM_fr q3
              rw [eM]
              refine g_iload (pc := 289) F dL_joins_289 rfl ?_
              refine g_if_ne (pc := 291) (tgt := 310) F dL_joins_291 (by decide) (fun c291 => ?_) (fun c291 => ?_)
              · refine g_ldc (pc := 310) F wk_L_45 dL_joins_310 ?_
                refine g_goto (pc := 312) (tgt := 317) F dL_joins_312 (by decide) ?_
                refine g_icmp_ne (pc := 317) (tgt := 324) F dL_joins_317 (by decide) (fun c317 => ?_) (fun c317 => ?_)
                · exact absurd rfl c317
                · refine g_iconst (pc := 320) (v := 1) F dL_joins_320 (by decide) ?_
                  refine g_goto (pc := 321) (tgt := 325) F dL_joins_321 (by decide) ?_
                  refine g_zret (pc := 325) F (by decide) r dL_joins_325 ?_
                  rw [← eM]
                  exact ⟨rfl, JP_no (show (-1000002 : Int32) < 0 by decide) q1 hAI q3 hGP⟩
              · exact absurd c291 c256
            · refine g_aload_n (pc := 259) F dL_joins_259 rfl ?_
              refine g_bipush (pc := 260) (v := 8) F dL_joins_260 (by decide) ?_
              refine g_iload (pc := 262) F dL_joins_262 rfl ?_
              refine g_imul (pc := 264) F dL_joins_264 ?_
              refine g_cld (pc := 265) (i := ci) (j := 0) F (ix80 ci) (by omega) (by decide) dL_joins_265 ?_
              refine g_aload_n (pc := 266) F dL_joins_266 rfl ?_
              refine g_iconst (pc := 267) (v := 4) F dL_joins_267 (by decide) ?_
              refine g_iload (pc := 268) F dL_joins_268 rfl ?_
              refine g_imul (pc := 270) F dL_joins_270 ?_
              refine g_qld (pc := 271) (i := gi) (j := 0) F (ix40 gi) (by omega) (by decide) dL_joins_271 ?_
              refine g_icmp_ne (pc := 272) (tgt := 281) F dL_joins_272 (by decide) (fun c272 => ?_) (fun c272 => ?_)
              · refine g_aload_n (pc := 281) F dL_joins_281 rfl ?_
                refine g_iload (pc := 282) F dL_joins_282 rfl ?_
                refine g_iload (pc := 284) F dL_joins_284 rfl ?_
                have eJ : oJoin S (nI gi) (nI ci) = (-1000002, S) := (join_eq hi hgi hci).trans (if_pos (Or.inl c272))
                refine g_callV (pc := 286) (rf2 := 4) (rl2 := 104) F cs_L_37 kd0 rfl (by decide) (by rfl) (by rfl) (Nat.le_of_ble_eq_true (by rfl)) (by decide) dL_joins_286 (w_join _ g M S S P pn hCA hAI _ _) (fun v M2 hz => ?_)
                obtain ⟨rfl, q1, q2, q3⟩ := hz
                rw [eJ] at q1 q2 ⊢
                have eM := WM_fr q3
                rw [eM]
                refine g_iload (pc := 289) F dL_joins_289 rfl ?_
                refine g_if_ne (pc := 291) (tgt := 310) F dL_joins_291 (by decide) (fun c291 => ?_) (fun c291 => ?_)
                · exact absurd c256 c291
                · refine g_aload_n (pc := 294) F dL_joins_294 rfl ?_
                  refine g_bipush (pc := 295) (v := 8) F dL_joins_295 (by decide) ?_
                  refine g_iload (pc := 297) F dL_joins_297 rfl ?_
                  refine g_imul (pc := 299) F dL_joins_299 ?_
                  refine g_cld (pc := 300) (i := ci) (j := 0) F (ix80 ci) (by omega) (by decide) dL_joins_300 ?_
                  refine g_aload_n (pc := 301) F dL_joins_301 rfl ?_
                  refine g_iconst (pc := 302) (v := 4) F dL_joins_302 (by decide) ?_
                  refine g_iload (pc := 303) F dL_joins_303 rfl ?_
                  refine g_imul (pc := 305) F dL_joins_305 ?_
                  refine g_qld (pc := 306) (i := gi) (j := 0) F (ix40 gi) (by omega) (by decide) dL_joins_306 ?_
                  refine g_icmp_eq (pc := 307) (tgt := 315) F dL_joins_307 (by decide) (fun c307 => ?_) (fun c307 => ?_)
                  · exact absurd c307 c272
                  · refine g_ldc (pc := 310) F wk_L_45 dL_joins_310 ?_
                    refine g_goto (pc := 312) (tgt := 317) F dL_joins_312 (by decide) ?_
                    refine g_icmp_ne (pc := 317) (tgt := 324) F dL_joins_317 (by decide) (fun c317 => ?_) (fun c317 => ?_)
                    · exact absurd rfl c317
                    · refine g_iconst (pc := 320) (v := 1) F dL_joins_320 (by decide) ?_
                      refine g_goto (pc := 321) (tgt := 325) F dL_joins_321 (by decide) ?_
                      refine g_zret (pc := 325) F (by decide) r dL_joins_325 ?_
                      rw [← eM]
                      exact ⟨rfl, JP_no (show (-1000002 : Int32) < 0 by decide) q1 hAI q3 hGP⟩
              · refine g_iload (pc := 275) F dL_joins_275 rfl ?_
                refine g_iconst (pc := 277) (v := 4) F dL_joins_277 (by decide) ?_
                refine g_icmp_ne (pc := 278) (tgt := 326) F dL_joins_278 (by decide) (fun c278 => ?_) (fun c278 => ?_)
                · have hno : ¬ isIn (gw S gi 1) ci := hb8.mp c256
                  have hp4 : jbc (gw S gi 1) < 4 := by
                    rw [hz1, jbc_nI z hz6]
                    have h4 : pop6 z ≠ 4 := fun e => c278 (by rw [e]; rfl)
                    exact (nI_ltI (b := 4) (by omega) (by decide)).mpr (by omega)
                  obtain ⟨k1, k2, k3⟩ := bit_join hz6 (i := ci) (by omega) (Classical.byContradiction fun e => hno (by rw [hz1]; exact e))
                  have eJ : oJoin S (nI gi) (nI ci) = (jbc (gw S gi 1 ||| (1 <<< (nI ci &&& 31))), mem1 S gi (gw S gi 1 ||| (1 <<< (nI ci &&& 31)))) := (join_eq hi hgi hci).trans ((if_neg (fun e => e.elim (fun q => q c272) hno)).trans (if_pos hp4))
                  refine G.toG gi ?_
                  refine g_aload_n (pc := 326) F dL_joins_326 rfl ?_
                  refine g_iconst (pc := 327) (v := 4) F dL_joins_327 (by decide) ?_
                  refine g_iload (pc := 328) F dL_joins_328 rfl ?_
                  refine g_imul (pc := 330) F dL_joins_330 ?_
                  refine g_iconst (pc := 331) (v := 1) F dL_joins_331 (by decide) ?_
                  refine g_iadd (pc := 332) F dL_joins_332 ?_
                  refine g_dup2 (pc := 333) F dL_joins_333 rfl rfl ?_
                  refine g_qldS (pc := 334) (i := gi) (j := 1) F (ix4 gi 1) (by omega) (by decide) dL_joins_334 ?_
                  refine g_iconst (pc := 335) (v := 1) F dL_joins_335 (by decide) ?_
                  refine g_iload (pc := 336) F dL_joins_336 rfl ?_
                  refine g_ishl (pc := 338) F dL_joins_338 ?_
                  refine g_iadd (pc := 339) F dL_joins_339 ?_
                  refine g_qstS (pc := 340) (i := gi) (j := 1) F (ix4 gi 1) (by omega) (by decide) dL_joins_340 ?_
                  refine G.sv (S' := mem1 S gi (gw S gi 1 ||| (1 <<< (nI ci &&& 31)))) (by unfold mem1; rw [hz1, k1]) ?_
                  refine g_aload_n (pc := 341) F dL_joins_341 rfl ?_
                  refine g_iload (pc := 342) F dL_joins_342 rfl ?_
                  refine g_iload (pc := 344) F dL_joins_344 rfl ?_
                  refine g_callV (pc := 346) (rf2 := 4) (rl2 := 104) F cs_L_37 kd0 rfl (by decide) (by rfl) (by rfl) (Nat.le_of_ble_eq_true (by rfl)) (by decide) dL_joins_346 (w_join _ g M S (mem1 S gi (gw S gi 1 ||| (1 <<< (nI ci &&& 31)))) P pn hCA hAI _ _) (fun v M2 hz => ?_)
                  obtain ⟨rfl, q1, q2, q3⟩ := hz
                  rw [eJ] at q1 q2 ⊢
                  have eM := WM_fr q3
                  rw [eM]
                  refine g_iload (pc := 349) F dL_joins_349 rfl ?_
                  refine g_iconst (pc := 351) (v := 1) F dL_joins_351 (by decide) ?_
                  refine g_iadd (pc := 352) F dL_joins_352 ?_
                  refine g_icmp_ne (pc := 353) (tgt := 360) F dL_joins_353 (by decide) (fun c353 => ?_) (fun c353 => ?_)
                  · exact absurd (by rw [hz1]; exact k2) c353
                  · refine g_iconst (pc := 356) (v := 1) F dL_joins_356 (by decide) ?_
                    refine g_goto (pc := 357) (tgt := 361) F dL_joins_357 (by decide) ?_
                    refine g_zret (pc := 361) F (by decide) r dL_joins_361 ?_
                    rw [← eM]
                    refine ⟨rfl, JP_ch rfl ?_ q1 q2 q3 (GP_mem hi hGP (fun i hi6 hin => ?_))⟩
                    · show ¬ jbc (gw S gi 1 ||| _) < 0
                      rw [hz1, k2, nI_1]
                      exact nI_nneg (by omega)
                    · rw [hz1] at hin
                      rcases k3 i hi6 hin with e | e
                      · rw [e]; exact ⟨hci, c272⟩
                      · exact hGP gi hgi i hi6 (by rw [hz1]; exact e)
                · refine g_aload_n (pc := 281) F dL_joins_281 rfl ?_
                  refine g_iload (pc := 282) F dL_joins_282 rfl ?_
                  refine g_iload (pc := 284) F dL_joins_284 rfl ?_
                  have eJ : oJoin S (nI gi) (nI ci) = (-1000003, S) := (join_eq hi hgi hci).trans ((if_neg (fun e => e.elim (fun q => q c272) (hb8.mp c256))).trans (if_neg (by rw [hz1, jbc_nI z hz6, c278]; decide)))
                  refine g_callV (pc := 286) (rf2 := 4) (rl2 := 104) F cs_L_37 kd0 rfl (by decide) (by rfl) (by rfl) (Nat.le_of_ble_eq_true (by rfl)) (by decide) dL_joins_286 (w_join _ g M S S P pn hCA hAI _ _) (fun v M2 hz => ?_)
                  obtain ⟨rfl, q1, q2, q3⟩ := hz
                  rw [eJ] at q1 q2 ⊢
                  have eM := WM_fr q3
                  rw [eM]
                  refine g_iload (pc := 289) F dL_joins_289 rfl ?_
                  refine g_if_ne (pc := 291) (tgt := 310) F dL_joins_291 (by decide) (fun c291 => ?_) (fun c291 => ?_)
                  · exact absurd c256 c291
                  · refine g_aload_n (pc := 294) F dL_joins_294 rfl ?_
                    refine g_bipush (pc := 295) (v := 8) F dL_joins_295 (by decide) ?_
                    refine g_iload (pc := 297) F dL_joins_297 rfl ?_
                    refine g_imul (pc := 299) F dL_joins_299 ?_
                    refine g_cld (pc := 300) (i := ci) (j := 0) F (ix80 ci) (by omega) (by decide) dL_joins_300 ?_
                    refine g_aload_n (pc := 301) F dL_joins_301 rfl ?_
                    refine g_iconst (pc := 302) (v := 4) F dL_joins_302 (by decide) ?_
                    refine g_iload (pc := 303) F dL_joins_303 rfl ?_
                    refine g_imul (pc := 305) F dL_joins_305 ?_
                    refine g_qld (pc := 306) (i := gi) (j := 0) F (ix40 gi) (by omega) (by decide) dL_joins_306 ?_
                    refine g_icmp_eq (pc := 307) (tgt := 315) F dL_joins_307 (by decide) (fun c307 => ?_) (fun c307 => ?_)
                    · refine g_ldc (pc := 315) F wk_L_33 dL_joins_315 ?_
                      refine g_icmp_ne (pc := 317) (tgt := 324) F dL_joins_317 (by decide) (fun c317 => ?_) (fun c317 => ?_)
                      · exact absurd rfl c317
                      · refine g_iconst (pc := 320) (v := 1) F dL_joins_320 (by decide) ?_
                        refine g_goto (pc := 321) (tgt := 325) F dL_joins_321 (by decide) ?_
                        refine g_zret (pc := 325) F (by decide) r dL_joins_325 ?_
                        rw [← eM]
                        exact ⟨rfl, JP_no (show (-1000003 : Int32) < 0 by decide) q1 hAI q3 hGP⟩
                    · exact absurd c272 c307
        refine g_aload_n (pc := 211) F dL_joins_211 rfl ?_
        refine g_iconst (pc := 212) (v := 4) F dL_joins_212 (by decide) ?_
        refine g_iload (pc := 213) F dL_joins_213 rfl ?_
        refine g_imul (pc := 215) F dL_joins_215 ?_
        refine g_iconst (pc := 216) (v := 1) F dL_joins_216 (by decide) ?_
        refine g_iadd (pc := 217) F dL_joins_217 ?_
        refine g_qld (pc := 218) (i := gi) (j := 1) F (ix4 gi 1) (by omega) (by decide) dL_joins_218 ?_
        refine g_iconst (pc := 219) (v := 1) F dL_joins_219 (by decide) ?_
        refine g_iload (pc := 220) F dL_joins_220 rfl ?_
        refine g_ishl (pc := 222) F dL_joins_222 ?_
        refine g_iand (pc := 223) F dL_joins_223 ?_
        refine g_if_le (pc := 224) (tgt := 231) F dL_joins_224 (by decide) (fun c224 => ?_) (fun c224 => ?_)
        · refine g_iconst (pc := 231) (v := 0) F dL_joins_231 (by decide) ?_
          refine g_istore (pc := 232) F dL_joins_232 (by decide) rfl ?_
          exact T234 0 ⟨fun _ e => e ((bit_in z hz6 ci (by omega)).mp (by rw [← hz1]; exact c224) |> fun q => by rw [hz1]; exact q), fun _ => rfl⟩
        · refine g_iconst (pc := 227) (v := 1) F dL_joins_227 (by decide) ?_
          refine g_goto (pc := 228) (tgt := 232) F dL_joins_228 (by decide) ?_
          refine g_istore (pc := 232) F dL_joins_232 (by decide) rfl ?_
          exact T234 1 ⟨fun e => absurd e (by decide), fun e => absurd ((bit_in z hz6 ci (by omega)).mpr (by rw [← hz1]; exact Classical.byContradiction e)) (by rw [← hz1]; exact c224)⟩
      have L : ∀ (n i ci : Nat), i + n = 6 → ci < cn S → G X g 10 (WM M S) 158 [some (.ref (ad g 0)), some (.ref (ad g 224)), some (.ref (ad g 225)), some (.ref (ad g 227)), some (.int (nI w)), some (.int (nI y)), some (.int (nI gi)), some (.int (nI ci)), some (.int (nI i)), none] [] := by
        intro n
        induction n with
        | zero =>
          intro i ci hin hci
          obtain rfl : i = 6 := by omega
          refine g_iload (pc := 158) F dL_joins_158 rfl ?_
          refine g_bipush (pc := 160) (v := 6) F dL_joins_160 (by decide) ?_
          refine g_icmp_ge (pc := 162) (tgt := 211) F dL_joins_162 (by decide) (fun c162 => ?_) (fun c162 => ?_)
          · exact G.sub [some (.ref (ad g 0)), some (.ref (ad g 224)), some (.ref (ad g 225)), some (.ref (ad g 227)), some (.int (nI w)), some (.int (nI y)), some (.int (nI gi)), some (.int (nI ci)), none, none] ⟨rfl, rfl, rfl, rfl, rfl, rfl, rfl, rfl, trivial⟩ (T211 ci hci)
          · exact absurd (show (6 : Int32) ≤ nI 6 by decide) c162
        | succ n ih =>
          intro i ci hin hci
          refine g_iload (pc := 158) F dL_joins_158 rfl ?_
          refine g_bipush (pc := 160) (v := 6) F dL_joins_160 (by decide) ?_
          refine g_icmp_ge (pc := 162) (tgt := 211) F dL_joins_162 (by decide) (fun c162 => ?_) (fun c162 => ?_)
          · exact G.sub [some (.ref (ad g 0)), some (.ref (ad g 224)), some (.ref (ad g 225)), some (.ref (ad g 227)), some (.int (nI w)), some (.int (nI y)), some (.int (nI gi)), some (.int (nI ci)), none, none] ⟨rfl, rfl, rfl, rfl, rfl, rfl, rfl, rfl, trivial⟩ (T211 ci hci)
          · refine g_iload (pc := 165) F dL_joins_165 rfl ?_
            refine g_bipush (pc := 167) (v := 18) F dL_joins_167 (by decide) ?_
            refine g_icmp_ge (pc := 169) (tgt := 211) F dL_joins_169 (by decide) (fun c169 => ?_) (fun c169 => ?_)
            · exact G.sub [some (.ref (ad g 0)), some (.ref (ad g 224)), some (.ref (ad g 225)), some (.ref (ad g 227)), some (.int (nI w)), some (.int (nI y)), some (.int (nI gi)), some (.int (nI ci)), none, none] ⟨rfl, rfl, rfl, rfl, rfl, rfl, rfl, rfl, trivial⟩ (T211 ci hci)
            · refine g_iload (pc := 172) F dL_joins_172 rfl ?_
              refine g_iconst (pc := 174) (v := 5) F dL_joins_174 (by decide) ?_
              refine g_iremN (pc := 175) (a := y) (b := 5) F rfl rfl (by omega) (by decide) (by decide) dL_joins_175 ?_
              refine g_if_le (pc := 176) (tgt := 211) F dL_joins_176 (by decide) (fun c176 => ?_) (fun c176 => ?_)
              · exact G.sub [some (.ref (ad g 0)), some (.ref (ad g 224)), some (.ref (ad g 225)), some (.ref (ad g 227)), some (.int (nI w)), some (.int (nI y)), some (.int (nI gi)), some (.int (nI ci)), none, none] ⟨rfl, rfl, rfl, rfl, rfl, rfl, rfl, rfl, trivial⟩ (T211 ci hci)
              · refine g_aload_n (pc := 179) F dL_joins_179 rfl ?_
                refine g_bipush (pc := 180) (v := 8) F dL_joins_180 (by decide) ?_
                refine g_iload (pc := 182) F dL_joins_182 rfl ?_
                refine g_imul (pc := 184) F dL_joins_184 ?_
                refine g_cld (pc := 185) (i := ci) (j := 0) F (ix80 ci) (by omega) (by decide) dL_joins_185 ?_
                refine g_aload_n (pc := 186) F dL_joins_186 rfl ?_
                refine g_iconst (pc := 187) (v := 4) F dL_joins_187 (by decide) ?_
                refine g_iload (pc := 188) F dL_joins_188 rfl ?_
                refine g_imul (pc := 190) F dL_joins_190 ?_
                refine g_qld (pc := 191) (i := gi) (j := 0) F (ix40 gi) (by omega) (by decide) dL_joins_191 ?_
                refine g_icmp_eq (pc := 192) (tgt := 211) F dL_joins_192 (by decide) (fun c192 => ?_) (fun c192 => ?_)
                · exact G.sub [some (.ref (ad g 0)), some (.ref (ad g 224)), some (.ref (ad g 225)), some (.ref (ad g 227)), some (.int (nI w)), some (.int (nI y)), some (.int (nI gi)), some (.int (nI ci)), none, none] ⟨rfl, rfl, rfl, rfl, rfl, rfl, rfl, rfl, trivial⟩ (T211 ci hci)
                · refine g_iload (pc := 195) F dL_joins_195 rfl ?_
                  refine g_iconst (pc := 197) (v := 1) F dL_joins_197 (by decide) ?_
                  refine g_iaddN (pc := 198) (a := ci) (b := 1) F rfl rfl dL_joins_198 ?_
                  refine g_aload_n (pc := 199) F dL_joins_199 rfl ?_
                  refine g_iconst (pc := 200) (v := 0) F dL_joins_200 (by decide) ?_
                  refine g_gld (pc := 201) (j := 0) F rfl (by decide) dL_joins_201 ?_
                  rw [hn.2]
                  refine g_iremN (pc := 202) (a := (ci + 1)) (b := (cn S)) F rfl rfl (by omega) (by omega) (by omega) dL_joins_202 ?_
                  refine g_istore (pc := 203) F dL_joins_203 (by decide) rfl ?_
                  refine g_iinc (pc := 205) (v := nI (i + 1)) F dL_joins_205 rfl (nI_1 i) (by decide) rfl ?_
                  refine g_goto (pc := 208) (tgt := 158) F dL_joins_208 (by decide) ?_
                  exact G.sub [some (.ref (ad g 0)), some (.ref (ad g 224)), some (.ref (ad g 225)), some (.ref (ad g 227)), some (.int (nI w)), some (.int (nI y)), some (.int (nI gi)), some (.int (nI ((ci + 1) % cn S))), some (.int (nI (i + 1))), none] ⟨rfl, rfl, rfl, rfl, rfl, rfl, rfl, rfl, rfl, trivial⟩ (ih (i + 1) ((ci + 1) % cn S) (by omega) (Nat.mod_lt _ (by omega)))
      refine g_iload (pc := 137) F dL_joins_137 rfl ?_
      refine g_aload_n (pc := 139) F dL_joins_139 rfl ?_
      refine g_iconst (pc := 140) (v := 1) F dL_joins_140 (by decide) ?_
      refine g_gld (pc := 141) (j := 1) F rfl (by decide) dL_joins_141 ?_
      rw [hm.2]
      refine g_iremN (pc := 142) (a := y) (b := (gn S)) F rfl rfl (by omega) hg0 (by omega) dL_joins_142 ?_
      rw [← egi]
      refine g_istore (pc := 143) F dL_joins_143 (by decide) rfl ?_
      refine g_iload (pc := 145) F dL_joins_145 rfl ?_
      refine g_iconst (pc := 147) (v := 4) F dL_joins_147 (by decide) ?_
      refine g_idivN (pc := 148) (a := y) (b := 4) F rfl rfl (by omega) (by decide) (by decide) dL_joins_148 ?_
      refine g_aload_n (pc := 149) F dL_joins_149 rfl ?_
      refine g_iconst (pc := 150) (v := 0) F dL_joins_150 (by decide) ?_
      refine g_gld (pc := 151) (j := 0) F rfl (by decide) dL_joins_151 ?_
      rw [hn.2]
      refine g_iremN (pc := 152) (a := (y / 4)) (b := (cn S)) F rfl rfl (by omega) (by omega) (by omega) dL_joins_152 ?_
      refine g_istore (pc := 153) F dL_joins_153 (by decide) rfl ?_
      refine g_iconst (pc := 155) (v := 0) F dL_joins_155 (by decide) ?_
      refine g_istore (pc := 156) F dL_joins_156 (by decide) rfl ?_
      exact G.sub [some (.ref (ad g 0)), some (.ref (ad g 224)), some (.ref (ad g 225)), some (.ref (ad g 227)), some (.int (nI w)), some (.int (nI y)), some (.int (nI gi)), some (.int (nI (y / 4 % cn S))), some (.int (nI 0)), none] ⟨rfl, rfl, rfl, rfl, rfl, rfl, rfl, rfl, rfl, trivial⟩ (L 6 0 (y / 4 % cn S) rfl (Nat.mod_lt _ (by omega)))
    · have hno : ¬ inG S 0 := fun e => by
        have h2 := e.2
        rw [c106] at h2
        exact Int32.lt_irrefl h2
      have eJ : oJoin S 0 0 = (-1000001, S) := if_neg (fun e => hno e.1)
      have eL : oLeave S 0 0 = (-1000001, S) := if_neg (fun e => hno e.1)
      refine g_aload_n (pc := 109) F dL_joins_109 rfl ?_
      refine g_iconst (pc := 110) (v := 0) F dL_joins_110 (by decide) ?_
      refine g_iconst (pc := 111) (v := 0) F dL_joins_111 (by decide) ?_
      refine g_callV (pc := 112) (rf2 := 4) (rl2 := 104) F cs_L_37 kd0 rfl (by decide) (by rfl) (by rfl) (Nat.le_of_ble_eq_true (by rfl)) (by decide) dL_joins_112 (w_join _ g M S S P pn hCA hAI _ _) (fun v M2 hz => ?_)
      obtain ⟨rfl, q1, q2, q3⟩ := hz
      rw [eJ] at q1 q2 ⊢
      have hCA2 := CA_no (show (-1000001 : Int32) < 0 by decide) q1
      have eM := WM_fr q3
      rw [eM]
      refine g_ldc (pc := 115) F wk_L_41 dL_joins_115 ?_
      refine g_icmp_ne (pc := 117) (tgt := 135) F dL_joins_117 (by decide) (fun c117 => ?_) (fun c117 => ?_)
      · exact absurd rfl c117
      · refine g_aload_n (pc := 120) F dL_joins_120 rfl ?_
        refine g_iconst (pc := 121) (v := 0) F dL_joins_121 (by decide) ?_
        refine g_iconst (pc := 122) (v := 0) F dL_joins_122 (by decide) ?_
        refine g_callV (pc := 123) (rf2 := 4) (rl2 := 104) F cs_L_42 kd0 rfl (by decide) (by rfl) (by rfl) (Nat.le_of_ble_eq_true (by rfl)) (by decide) dL_joins_123 (w_leave _ g M2 S S P pn hCA2 hAI _ _) (fun v2 M3 hz2 => ?_)
        obtain ⟨rfl, r1, r2, r3⟩ := hz2
        rw [eL] at r1 r2 ⊢
        have eM3 := WM_fr r3
        rw [eM3]
        refine g_ldc (pc := 126) F wk_L_41 dL_joins_126 ?_
        refine g_icmp_ne (pc := 128) (tgt := 135) F dL_joins_128 (by decide) (fun c128 => ?_) (fun c128 => ?_)
        · exact absurd rfl c128
        · refine g_iconst (pc := 131) (v := 1) F dL_joins_131 (by decide) ?_
          refine g_goto (pc := 132) (tgt := 136) F dL_joins_132 (by decide) ?_
          refine g_zret (pc := 136) F (by decide) r dL_joins_136 ?_
          rw [← eM3]
          exact ⟨rfl, JP_no (show (-1000001 : Int32) < 0 by decide) r1 hAI r3 hGP⟩
  · refine g_iload (pc := 7) F dL_joins_7 rfl ?_
    refine g_iconst (pc := 9) (v := 3) F dL_joins_9 (by decide) ?_
    refine g_iremN (pc := 10) (a := y) (b := 3) F rfl rfl (by omega) (by decide) (by decide) dL_joins_10 ?_
    refine g_istore (pc := 11) F dL_joins_11 (by decide) rfl ?_
    refine g_aload_n (pc := 13) F dL_joins_13 rfl ?_
    refine g_iconst (pc := 14) (v := 1) F dL_joins_14 (by decide) ?_
    refine g_gld (pc := 15) (j := 1) F rfl (by decide) dL_joins_15 ?_
    refine g_iconst (pc := 16) (v := 4) F dL_joins_16 (by decide) ?_
    refine g_icmp_ne (pc := 17) (tgt := 37) F dL_joins_17 (by decide) (fun c17 => ?_) (fun c17 => ?_)
    · have h41 : ¬ S 1 = 4 := c17
      have hg4 : gn S < 4 := by
        have h4 : gn S ≠ 4 := fun e => c17 (by rw [hm.2, e]; rfl)
        omega
      have eG : oGroup S (nI (y % 3)) = (S 1, upd (setGr S (gn S) (g0 (nI (y % 3)))) 1 (S 1 + 1)) := (if_pos hlaw).trans (if_neg h41)
      refine G.toG (gn S) ?_
      refine g_aload_n (pc := 37) F dL_joins_37 rfl ?_
      refine g_iconst (pc := 38) (v := 4) F dL_joins_38 (by decide) ?_
      refine g_aload_n (pc := 39) F dL_joins_39 rfl ?_
      refine g_iconst (pc := 40) (v := 1) F dL_joins_40 (by decide) ?_
      refine g_gld (pc := 41) (j := 1) F rfl (by decide) dL_joins_41 ?_
      rw [setGr_lo _ _ _ (show 1 < 4 by decide), hm.2]
      refine g_imul (pc := 42) F dL_joins_42 ?_
      refine g_iload (pc := 43) F dL_joins_43 rfl ?_
      refine g_qstS (pc := 45) (i := (gn S)) (j := 0) F (ix40 (gn S)) (by omega) (by decide) dL_joins_45 ?_
      refine g_aload_n (pc := 46) F dL_joins_46 rfl ?_
      refine g_iconst (pc := 47) (v := 4) F dL_joins_47 (by decide) ?_
      refine g_aload_n (pc := 48) F dL_joins_48 rfl ?_
      refine g_iconst (pc := 49) (v := 1) F dL_joins_49 (by decide) ?_
      refine g_gld (pc := 50) (j := 1) F rfl (by decide) dL_joins_50 ?_
      rw [setGr_lo _ _ _ (show 1 < 4 by decide), hm.2]
      refine g_imul (pc := 51) F dL_joins_51 ?_
      refine g_iconst (pc := 52) (v := 1) F dL_joins_52 (by decide) ?_
      refine g_iadd (pc := 53) F dL_joins_53 ?_
      refine g_iconst (pc := 54) (v := 0) F dL_joins_54 (by decide) ?_
      refine g_qstS (pc := 55) (i := (gn S)) (j := 1) F (ix4 (gn S) 1) (by omega) (by decide) dL_joins_55 ?_
      refine g_aload_n (pc := 56) F dL_joins_56 rfl ?_
      refine g_iconst (pc := 57) (v := 4) F dL_joins_57 (by decide) ?_
      refine g_aload_n (pc := 58) F dL_joins_58 rfl ?_
      refine g_iconst (pc := 59) (v := 1) F dL_joins_59 (by decide) ?_
      refine g_gld (pc := 60) (j := 1) F rfl (by decide) dL_joins_60 ?_
      rw [setGr_lo _ _ _ (show 1 < 4 by decide), hm.2]
      refine g_imul (pc := 61) F dL_joins_61 ?_
      refine g_iconst (pc := 62) (v := 2) F dL_joins_62 (by decide) ?_
      refine g_iadd (pc := 63) F dL_joins_63 ?_
      refine g_iconst (pc := 64) (v := 0) F dL_joins_64 (by decide) ?_
      refine g_qstS (pc := 65) (i := (gn S)) (j := 2) F (ix4 (gn S) 2) (by omega) (by decide) dL_joins_65 ?_
      refine g_aload_n (pc := 66) F dL_joins_66 rfl ?_
      refine g_iconst (pc := 67) (v := 4) F dL_joins_67 (by decide) ?_
      refine g_aload_n (pc := 68) F dL_joins_68 rfl ?_
      refine g_iconst (pc := 69) (v := 1) F dL_joins_69 (by decide) ?_
      refine g_gld (pc := 70) (j := 1) F rfl (by decide) dL_joins_70 ?_
      rw [setGr_lo _ _ _ (show 1 < 4 by decide), hm.2]
      refine g_imul (pc := 71) F dL_joins_71 ?_
      refine g_iconst (pc := 72) (v := 3) F dL_joins_72 (by decide) ?_
      refine g_iadd (pc := 73) F dL_joins_73 ?_
      refine g_iconst (pc := 74) (v := 0) F dL_joins_74 (by decide) ?_
      refine g_qstS (pc := 75) (i := (gn S)) (j := 3) F (ix4 (gn S) 3) (by omega) (by decide) dL_joins_75 ?_
      refine g_aload_n (pc := 76) F dL_joins_76 rfl ?_
      refine g_iconst (pc := 77) (v := 1) F dL_joins_77 (by decide) ?_
      refine g_dup2 (pc := 78) F dL_joins_78 rfl rfl ?_
      refine g_gld (pc := 79) (j := 1) F rfl (by decide) dL_joins_79 ?_
      rw [setGr_lo _ _ _ (show 1 < 4 by decide)]
      refine g_iconst (pc := 80) (v := 1) F dL_joins_80 (by decide) ?_
      refine g_iadd (pc := 81) F dL_joins_81 ?_
      refine g_gst (pc := 82) (j := 1) F rfl (by decide) dL_joins_82 ?_
      refine G.sv (S' := (upd (setGr S (gn S) (g0 (nI (y % 3)))) 1 (S 1 + 1))) (by rw [setGr_congr S (gn S) (w := (upd (upd (upd (upd (gw S (gn S)) 0 (nI (y % 3))) 1 0) 2 0) 3 0)) (w' := g0 (nI (y % 3))) (fun j hj => match j, hj with
        | 0, _ | 1, _ | 2, _ | 3, _ => rfl)]) ?_
      refine g_aload_n (pc := 83) F dL_joins_83 rfl ?_
      refine g_iload (pc := 84) F dL_joins_84 rfl ?_
      refine g_callV (pc := 86) (rf2 := 4) (rl2 := 104) F cs_L_34 kd0 rfl (by decide) (by rfl) (by rfl) (Nat.le_of_ble_eq_true (by rfl)) (by decide) dL_joins_86 (w_group _ g M S (upd (setGr S (gn S) (g0 (nI (y % 3)))) 1 (S 1 + 1)) P pn hCA hAI _) (fun v M2 hz => ?_)
      obtain ⟨rfl, q1, q2, q3⟩ := hz
      rw [eG] at q1 q2 ⊢
      have eM := WM_fr q3
      rw [eM]
      refine g_aload_n (pc := 89) F dL_joins_89 rfl ?_
      refine g_iconst (pc := 90) (v := 1) F dL_joins_90 (by decide) ?_
      refine g_gld (pc := 91) (j := 1) F rfl (by decide) dL_joins_91 ?_
      refine g_iconst (pc := 92) (v := 1) F dL_joins_92 (by decide) ?_
      refine g_isub (pc := 93) F dL_joins_93 ?_
      refine g_icmp_ne (pc := 94) (tgt := 101) F dL_joins_94 (by decide) (fun c94 => ?_) (fun c94 => ?_)
      · exact absurd (by rw [upd_self, Int32.add_sub_cancel]) c94
      · refine g_iconst (pc := 97) (v := 1) F dL_joins_97 (by decide) ?_
        refine g_goto (pc := 98) (tgt := 102) F dL_joins_98 (by decide) ?_
        refine g_zret (pc := 102) F (by decide) r dL_joins_102 ?_
        rw [← eM]
        refine ⟨rfl, JP_ch rfl ?_ q1 q2 q3 (GP_grp hi hGP hg4)⟩
        show ¬ S 1 < 0
        rw [hm.2]
        exact nI_nneg (by omega)
    · have eG : oGroup S (nI (y % 3)) = (-1000003, S) := (if_pos hlaw).trans (if_pos c17)
      refine g_aload_n (pc := 20) F dL_joins_20 rfl ?_
      refine g_iload (pc := 21) F dL_joins_21 rfl ?_
      refine g_callV (pc := 23) (rf2 := 4) (rl2 := 104) F cs_L_34 kd0 rfl (by decide) (by rfl) (by rfl) (Nat.le_of_ble_eq_true (by rfl)) (by decide) dL_joins_23 (w_group _ g M S S P pn hCA hAI _) (fun v M2 hz => ?_)
      obtain ⟨rfl, q1, q2, q3⟩ := hz
      rw [eG] at q1 q2 ⊢
      have eM := WM_fr q3
      rw [eM]
      refine g_ldc (pc := 26) F wk_L_33 dL_joins_26 ?_
      refine g_icmp_ne (pc := 28) (tgt := 35) F dL_joins_28 (by decide) (fun c28 => ?_) (fun c28 => ?_)
      · exact absurd rfl c28
      · refine g_iconst (pc := 31) (v := 1) F dL_joins_31 (by decide) ?_
        refine g_goto (pc := 32) (tgt := 36) F dL_joins_32 (by decide) ?_
        refine g_zret (pc := 36) F (by decide) r dL_joins_36 ?_
        rw [← eM]
        exact ⟨rfl, JP_no (show (-1000003 : Int32) < 0 by decide) q1 hAI q3 hGP⟩
