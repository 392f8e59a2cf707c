/-! the law looks at the clocks -/
theorem co_eq {S : SV} {t k : Nat} (hi : Inv S t) (hk : k < cn S) (q : Nat) (hq : q ≤ 13) : oClockOf S (nI k) (nI q) = wv (cw S k) q := by
  have h6 := hi.cn_le.1
  unfold oClockOf
  rw [if_pos ⟨inC_of hi hk, nI_pos' (by omega), (nI_leI (b := 13) (by omega) (by decide)).mpr hq⟩, ixN_nI (by omega), ixN_nI (by omega)]
theorem isIn63 : ∀ i, i < 6 → isIn 63 i := by decide +kernel
theorem sum63 (S : SV) (q : Nat) {i : Nat} (hi : i < 6) : sumW S 63 q (i + 1) = sumW S 63 q i + wv (cw S i) q := if_pos (isIn63 i hi)
theorem cnt_eq (S : SV) (P : Nat → SV) (pn : Nat) (q : Nat) (hq : q ≤ 10) : oCount (S, P, pn, fun _ => 0, 0) (nI q) = cntW (S, P, pn, fun _ => 0, 0) q := by
  unfold oCount
  rw [if_pos ⟨nI_pos' (by omega), (nI_leI (b := 10) (by omega) (by decide)).mpr hq⟩, ixN_nI (by omega)]
set_option maxHeartbeats 4000000 in
set_option maxRecDepth 100000 in
theorem ac_end {M : Mem} {S : SV} {X : XT} {g : Gm} (F : FX X g cL_areClocks 14 yL_areClocks.cls 4 86) (r : RX X g (some .boolean) (fun v M2 => v = some (.int 1) ∧ M2 = WM M S)) (P : Nat → SV) (pn : Nat) (hCA : CA M (S, P, pn, fun _ => 0, 0)) (hAI : AI (S, P, pn, fun _ => 0, 0)) (t : Nat) (hi : Inv S t) : G X g 14 (WM M S) 417 [some (.ref (ad g 0)), some (.ref (ad g 224)), some (.ref (ad g 225)), some (.ref (ad g 226)), some (.int 1), some (.int (sumW S 63 8 (cn S))), some (.int (sumW S 63 11 (cn S))), some (.int (sumW S 63 12 (cn S))), some (.int (aboutW S (cn S))), some (.int (oldestW S (cn S))), some (.int (nI (cn S))), none, none, none] [] := by
  have hn := hi.cn_le
  refine g_iload (pc := 417) F dL_areClocks_417 rfl ?_
  refine g_if_eq (pc := 419) (tgt := 479) F dL_areClocks_419 (by decide) (fun c419 => ?_) (fun c419 => ?_)
  · exact absurd c419 (by decide)
  · refine g_aload_n (pc := 422) F dL_areClocks_422 rfl ?_
    refine g_iconst (pc := 423) (v := 4) F dL_areClocks_423 (by decide) ?_
    refine g_callV (pc := 424) (rf2 := 3) (rl2 := 65) F cs_L_79 kd0 rfl (by decide) (by rfl) (by rfl) (Nat.le_of_ble_eq_true (by rfl)) (by decide) dL_areClocks_424 (w_count _ g M S S P pn hCA hAI _) (fun v M2 hz => ?_)
    obtain ⟨rfl, rfl⟩ := hz
    rw [show oCount (S, P, pn, fun _ => 0, 0) 4 = sumW S 63 8 (cn S) from cnt_eq S P pn 4 (by decide)]
    refine g_iload (pc := 427) F dL_areClocks_427 rfl ?_
    refine g_icmp_ne (pc := 429) (tgt := 479) F dL_areClocks_429 (by decide) (fun c429 => ?_) (fun c429 => ?_)
    · exact absurd rfl c429
    · refine g_aload_n (pc := 432) F dL_areClocks_432 rfl ?_
      refine g_iconst (pc := 433) (v := 5) F dL_areClocks_433 (by decide) ?_
      refine g_callV (pc := 434) (rf2 := 3) (rl2 := 65) F cs_L_79 kd0 rfl (by decide) (by rfl) (by rfl) (Nat.le_of_ble_eq_true (by rfl)) (by decide) dL_areClocks_434 (w_count _ g M S S P pn hCA hAI _) (fun v M2 hz => ?_)
      obtain ⟨rfl, rfl⟩ := hz
      rw [show oCount (S, P, pn, fun _ => 0, 0) 5 = sumW S 63 11 (cn S) from cnt_eq S P pn 5 (by decide)]
      refine g_iload (pc := 437) F dL_areClocks_437 rfl ?_
      refine g_icmp_ne (pc := 439) (tgt := 479) F dL_areClocks_439 (by decide) (fun c439 => ?_) (fun c439 => ?_)
      · exact absurd rfl c439
      · refine g_aload_n (pc := 442) F dL_areClocks_442 rfl ?_
        refine g_bipush (pc := 443) (v := 6) F dL_areClocks_443 (by decide) ?_
        refine g_callV (pc := 445) (rf2 := 3) (rl2 := 65) F cs_L_79 kd0 rfl (by decide) (by rfl) (by rfl) (Nat.le_of_ble_eq_true (by rfl)) (by decide) dL_areClocks_445 (w_count _ g M S S P pn hCA hAI _) (fun v M2 hz => ?_)
        obtain ⟨rfl, rfl⟩ := hz
        rw [show oCount (S, P, pn, fun _ => 0, 0) 6 = sumW S 63 12 (cn S) from cnt_eq S P pn 6 (by decide)]
        refine g_iload (pc := 448) F dL_areClocks_448 rfl ?_
        refine g_icmp_ne (pc := 450) (tgt := 479) F dL_areClocks_450 (by decide) (fun c450 => ?_) (fun c450 => ?_)
        · exact absurd rfl c450
        · refine g_aload_n (pc := 453) F dL_areClocks_453 rfl ?_
          refine g_bipush (pc := 454) (v := 7) F dL_areClocks_454 (by decide) ?_
          refine g_callV (pc := 456) (rf2 := 3) (rl2 := 65) F cs_L_79 kd0 rfl (by decide) (by rfl) (by rfl) (Nat.le_of_ble_eq_true (by rfl)) (by decide) dL_areClocks_456 (w_count _ g M S S P pn hCA hAI _) (fun v M2 hz => ?_)
          obtain ⟨rfl, rfl⟩ := hz
          rw [show oCount (S, P, pn, fun _ => 0, 0) 7 = aboutW S (cn S) from cnt_eq S P pn 7 (by decide)]
          refine g_iload (pc := 459) F dL_areClocks_459 rfl ?_
          refine g_icmp_ne (pc := 461) (tgt := 479) F dL_areClocks_461 (by decide) (fun c461 => ?_) (fun c461 => ?_)
          · exact absurd rfl c461
          · refine g_aload_n (pc := 464) F dL_areClocks_464 rfl ?_
            refine g_bipush (pc := 465) (v := 8) F dL_areClocks_465 (by decide) ?_
            refine g_callV (pc := 467) (rf2 := 3) (rl2 := 65) F cs_L_79 kd0 rfl (by decide) (by rfl) (by rfl) (Nat.le_of_ble_eq_true (by rfl)) (by decide) dL_areClocks_467 (w_count _ g M S S P pn hCA hAI _) (fun v M2 hz => ?_)
            obtain ⟨rfl, rfl⟩ := hz
            rw [show oCount (S, P, pn, fun _ => 0, 0) 8 = oldestW S (cn S) from cnt_eq S P pn 8 (by decide)]
            refine g_iload (pc := 470) F dL_areClocks_470 rfl ?_
            refine g_icmp_ne (pc := 472) (tgt := 479) F dL_areClocks_472 (by decide) (fun c472 => ?_) (fun c472 => ?_)
            · exact absurd rfl c472
            · refine g_iconst (pc := 475) (v := 1) F dL_areClocks_475 (by decide) ?_
              refine g_goto (pc := 476) (tgt := 480) F dL_areClocks_476 (by decide) ?_
              refine g_zret (pc := 480) F (by decide) r dL_areClocks_480 ?_
              exact ⟨rfl, rfl⟩
set_option maxHeartbeats 4000000 in
set_option maxRecDepth 100000 in
theorem ac_202 {M : Mem} {S : SV} {X : XT} {g : Gm} (F : FX X g cL_areClocks 14 yL_areClocks.cls 4 86) (r : RX X g (some .boolean) (fun v M2 => v = some (.int 1) ∧ M2 = WM M S)) (P : Nat → SV) (pn : Nat) (hCA : CA M (S, P, pn, fun _ => 0, 0)) (hAI : AI (S, P, pn, fun _ => 0, 0)) (t : Nat) (hi : Inv S t) (k : Nat) (hk : k < cn S) (K : G X g 14 (WM M S) 50 [some (.ref (ad g 0)), some (.ref (ad g 224)), some (.ref (ad g 225)), some (.ref (ad g 226)), some (.int 1), some (.int (sumW S 63 8 (k + 1))), some (.int (sumW S 63 11 (k + 1))), some (.int (sumW S 63 12 (k + 1))), some (.int (aboutW S (k + 1))), some (.int (oldestW S (k + 1))), some (.int (nI (k + 1))), none, none, none] []) : G X g 14 (WM M S) 202 [some (.ref (ad g 0)), some (.ref (ad g 224)), some (.ref (ad g 225)), some (.ref (ad g 226)), some (.int 1), some (.int (sumW S 63 8 (k + 1))), some (.int (sumW S 63 11 (k + 1))), some (.int (sumW S 63 12 (k + 1))), some (.int (aboutW S (k + 1))), some (.int (oldestW S (k + 1))), some (.int (nI k)), some (.int (8 * nI k)), some (.int (7 * nI k)), none] [] := by
  have hn := hi.cn_le
  obtain ⟨la, a, b, c, d, p, gp, ag, sm, sq, hL, h5, hp, h6, gp1, gp2, h7, ha, -⟩ := hi.2.2.2.2.2.1 k hk
  have hrest : restW S k = nI (gp - ag) := by
    show cw S k 6 - cw S k 7 = _
    rw [h6, h7, nI_sub (by omega)]
  refine g_iload (pc := 202) F dL_areClocks_202 rfl ?_
  refine g_if_eq (pc := 204) (tgt := 408) F dL_areClocks_204 (by decide) (fun c204 => ?_) (fun c204 => ?_)
  · exact absurd c204 (by decide)
  · refine g_aload_n (pc := 207) F dL_areClocks_207 rfl ?_
    refine g_iload (pc := 208) F dL_areClocks_208 rfl ?_
    refine g_iconst (pc := 210) (v := 5) F dL_areClocks_210 (by decide) ?_
    refine g_callV (pc := 211) (rf2 := 2) (rl2 := 41) F cs_L_75 kd0 rfl (by decide) (by rfl) (by rfl) (Nat.le_of_ble_eq_true (by rfl)) (by decide) dL_areClocks_211 (w_clockOf _ g M S S P pn hCA hAI _ _) (fun v M2 hz => ?_)
    obtain ⟨rfl, rfl⟩ := hz
    rw [show oClockOf S (nI k) 5 = cw S k 6 from co_eq hi hk 5 (by decide)]
    refine g_aload_n (pc := 214) F dL_areClocks_214 rfl ?_
    refine g_iload (pc := 215) F dL_areClocks_215 rfl ?_
    refine g_bipush (pc := 217) (v := 6) F dL_areClocks_217 (by decide) ?_
    refine g_iadd (pc := 219) F dL_areClocks_219 ?_
    refine g_cld (pc := 220) (i := k) (j := 6) F (ix8 k 6) (by omega) (by decide) dL_areClocks_220 ?_
    refine g_icmp_ne (pc := 221) (tgt := 408) F dL_areClocks_221 (by decide) (fun c221 => ?_) (fun c221 => ?_)
    · exact absurd rfl c221
    · refine g_aload_n (pc := 224) F dL_areClocks_224 rfl ?_
      refine g_iload (pc := 225) F dL_areClocks_225 rfl ?_
      refine g_bipush (pc := 227) (v := 6) F dL_areClocks_227 (by decide) ?_
      refine g_callV (pc := 229) (rf2 := 2) (rl2 := 41) F cs_L_75 kd0 rfl (by decide) (by rfl) (by rfl) (Nat.le_of_ble_eq_true (by rfl)) (by decide) dL_areClocks_229 (w_clockOf _ g M S S P pn hCA hAI _ _) (fun v M2 hz => ?_)
      obtain ⟨rfl, rfl⟩ := hz
      rw [show oClockOf S (nI k) 6 = cw S k 7 from co_eq hi hk 6 (by decide)]
      refine g_aload_n (pc := 232) F dL_areClocks_232 rfl ?_
      refine g_iload (pc := 233) F dL_areClocks_233 rfl ?_
      refine g_bipush (pc := 235) (v := 7) F dL_areClocks_235 (by decide) ?_
      refine g_iadd (pc := 237) F dL_areClocks_237 ?_
      refine g_cld (pc := 238) (i := k) (j := 7) F (ix8 k 7) (by omega) (by decide) dL_areClocks_238 ?_
      refine g_icmp_ne (pc := 239) (tgt := 408) F dL_areClocks_239 (by decide) (fun c239 => ?_) (fun c239 => ?_)
      · exact absurd rfl c239
      · refine g_aload_n (pc := 242) F dL_areClocks_242 rfl ?_
        refine g_iload (pc := 243) F dL_areClocks_243 rfl ?_
        refine g_bipush (pc := 245) (v := 7) F dL_areClocks_245 (by decide) ?_
        refine g_callV (pc := 247) (rf2 := 2) (rl2 := 41) F cs_L_75 kd0 rfl (by decide) (by rfl) (by rfl) (Nat.le_of_ble_eq_true (by rfl)) (by decide) dL_areClocks_247 (w_clockOf _ g M S S P pn hCA hAI _ _) (fun v M2 hz => ?_)
        obtain ⟨rfl, rfl⟩ := hz
        rw [show oClockOf S (nI k) 7 = restW S k from co_eq hi hk 7 (by decide)]
        refine g_aload_n (pc := 250) F dL_areClocks_250 rfl ?_
        refine g_iload (pc := 251) F dL_areClocks_251 rfl ?_
        refine g_callS (pc := 253) (rf2 := 0) (rl2 := 0) F cs_L_67 (by rfl) (by rfl) (Nat.le_of_ble_eq_true (by rfl)) (by decide) dL_areClocks_253 (c_L_rest _ g M S k (by omega)) (fun v M2 hz => ?_)
        obtain ⟨rfl, rfl⟩ := hz
        refine g_icmp_ne (pc := 256) (tgt := 408) F dL_areClocks_256 (by decide) (fun c256 => ?_) (fun c256 => ?_)
        · exact absurd rfl c256
        · refine g_aload_n (pc := 259) F dL_areClocks_259 rfl ?_
          refine g_iload (pc := 260) F dL_areClocks_260 rfl ?_
          refine g_bipush (pc := 262) (v := 8) F dL_areClocks_262 (by decide) ?_
          refine g_callV (pc := 264) (rf2 := 2) (rl2 := 41) F cs_L_75 kd0 rfl (by decide) (by rfl) (by rfl) (Nat.le_of_ble_eq_true (by rfl)) (by decide) dL_areClocks_264 (w_clockOf _ g M S S P pn hCA hAI _ _) (fun v M2 hz => ?_)
          obtain ⟨rfl, rfl⟩ := hz
          rw [show oClockOf S (nI k) 8 = cw S k 8 from co_eq hi hk 8 (by decide)]
          refine g_aload_n (pc := 267) F dL_areClocks_267 rfl ?_
          refine g_iload (pc := 268) F dL_areClocks_268 rfl ?_
          refine g_vld (pc := 270) (i := k) (j := 0) F (ix70 k) (by omega) (by decide) dL_areClocks_270 ?_
          refine g_icmp_ne (pc := 271) (tgt := 408) F dL_areClocks_271 (by decide) (fun c271 => ?_) (fun c271 => ?_)
          · exact absurd rfl c271
          · refine g_aload_n (pc := 274) F dL_areClocks_274 rfl ?_
            refine g_iload (pc := 275) F dL_areClocks_275 rfl ?_
            refine g_bipush (pc := 277) (v := 9) F dL_areClocks_277 (by decide) ?_
            refine g_callV (pc := 279) (rf2 := 2) (rl2 := 41) F cs_L_75 kd0 rfl (by decide) (by rfl) (by rfl) (Nat.le_of_ble_eq_true (by rfl)) (by decide) dL_areClocks_279 (w_clockOf _ g M S S P pn hCA hAI _ _) (fun v M2 hz => ?_)
            obtain ⟨rfl, rfl⟩ := hz
            rw [show oClockOf S (nI k) 9 = cw S k 9 from co_eq hi hk 9 (by decide)]
            refine g_aload_n (pc := 282) F dL_areClocks_282 rfl ?_
            refine g_iload (pc := 283) F dL_areClocks_283 rfl ?_
            refine g_iconst (pc := 285) (v := 1) F dL_areClocks_285 (by decide) ?_
            refine g_iadd (pc := 286) F dL_areClocks_286 ?_
            refine g_vld (pc := 287) (i := k) (j := 1) F (ix7 k 1) (by omega) (by decide) dL_areClocks_287 ?_
            refine g_icmp_ne (pc := 288) (tgt := 408) F dL_areClocks_288 (by decide) (fun c288 => ?_) (fun c288 => ?_)
            · exact absurd rfl c288
            · refine g_aload_n (pc := 291) F dL_areClocks_291 rfl ?_
              refine g_iload (pc := 292) F dL_areClocks_292 rfl ?_
              refine g_bipush (pc := 294) (v := 10) F dL_areClocks_294 (by decide) ?_
              refine g_callV (pc := 296) (rf2 := 2) (rl2 := 41) F cs_L_75 kd0 rfl (by decide) (by rfl) (by rfl) (Nat.le_of_ble_eq_true (by rfl)) (by decide) dL_areClocks_296 (w_clockOf _ g M S S P pn hCA hAI _ _) (fun v M2 hz => ?_)
              obtain ⟨rfl, rfl⟩ := hz
              rw [show oClockOf S (nI k) 10 = (if cw S k 8 = 0 then -1000004 else cw S k 11) from co_eq hi hk 10 (by decide)]
              refine g_aload_n (pc := 299) F dL_areClocks_299 rfl ?_
              refine g_iload (pc := 300) F dL_areClocks_300 rfl ?_
              refine g_vld (pc := 302) (i := k) (j := 0) F (ix70 k) (by omega) (by decide) dL_areClocks_302 ?_
              refine g_if_ne (pc := 303) (tgt := 311) F dL_areClocks_303 (by decide) (fun c303 => ?_) (fun c303 => ?_)
              · have c3 : ¬ cw S k 8 = 0 := c303
                refine g_aload_n (pc := 311) F dL_areClocks_311 rfl ?_
                refine g_iload (pc := 312) F dL_areClocks_312 rfl ?_
                refine g_iconst (pc := 314) (v := 3) F dL_areClocks_314 (by decide) ?_
                refine g_iadd (pc := 315) F dL_areClocks_315 ?_
                refine g_vld (pc := 316) (i := k) (j := 3) F (ix7 k 3) (by omega) (by decide) dL_areClocks_316 ?_
                refine g_icmp_ne (pc := 317) (tgt := 408) F dL_areClocks_317 (by decide) (fun c317 => ?_) (fun c317 => ?_)
                · exact absurd (if_neg c3) c317
                · refine g_aload_n (pc := 320) F dL_areClocks_320 rfl ?_
                  refine g_iload (pc := 321) F dL_areClocks_321 rfl ?_
                  refine g_bipush (pc := 323) (v := 11) F dL_areClocks_323 (by decide) ?_
                  refine g_callV (pc := 325) (rf2 := 2) (rl2 := 41) F cs_L_75 kd0 rfl (by decide) (by rfl) (by rfl) (Nat.le_of_ble_eq_true (by rfl)) (by decide) dL_areClocks_325 (w_clockOf _ g M S S P pn hCA hAI _ _) (fun v M2 hz => ?_)
                  obtain ⟨rfl, rfl⟩ := hz
                  rw [show oClockOf S (nI k) 11 = cw S k 12 from co_eq hi hk 11 (by decide)]
                  refine g_aload_n (pc := 328) F dL_areClocks_328 rfl ?_
                  refine g_iload (pc := 329) F dL_areClocks_329 rfl ?_
                  refine g_iconst (pc := 331) (v := 4) F dL_areClocks_331 (by decide) ?_
                  refine g_iadd (pc := 332) F dL_areClocks_332 ?_
                  refine g_vld (pc := 333) (i := k) (j := 4) F (ix7 k 4) (by omega) (by decide) dL_areClocks_333 ?_
                  refine g_icmp_ne (pc := 334) (tgt := 408) F dL_areClocks_334 (by decide) (fun c334 => ?_) (fun c334 => ?_)
                  · exact absurd rfl c334
                  · refine g_aload_n (pc := 337) F dL_areClocks_337 rfl ?_
                    refine g_iload (pc := 338) F dL_areClocks_338 rfl ?_
                    refine g_bipush (pc := 340) (v := 12) F dL_areClocks_340 (by decide) ?_
                    refine g_callV (pc := 342) (rf2 := 2) (rl2 := 41) F cs_L_75 kd0 rfl (by decide) (by rfl) (by rfl) (Nat.le_of_ble_eq_true (by rfl)) (by decide) dL_areClocks_342 (w_clockOf _ g M S S P pn hCA hAI _ _) (fun v M2 hz => ?_)
                    obtain ⟨rfl, rfl⟩ := hz
                    rw [show oClockOf S (nI k) 12 = cw S k 13 from co_eq hi hk 12 (by decide)]
                    refine g_aload_n (pc := 345) F dL_areClocks_345 rfl ?_
                    refine g_iload (pc := 346) F dL_areClocks_346 rfl ?_
                    refine g_iconst (pc := 348) (v := 5) F dL_areClocks_348 (by decide) ?_
                    refine g_iadd (pc := 349) F dL_areClocks_349 ?_
                    refine g_vld (pc := 350) (i := k) (j := 5) F (ix7 k 5) (by omega) (by decide) dL_areClocks_350 ?_
                    refine g_icmp_ne (pc := 351) (tgt := 408) F dL_areClocks_351 (by decide) (fun c351 => ?_) (fun c351 => ?_)
                    · exact absurd rfl c351
                    · refine g_aload_n (pc := 354) F dL_areClocks_354 rfl ?_
                      refine g_iload (pc := 355) F dL_areClocks_355 rfl ?_
                      refine g_bipush (pc := 357) (v := 13) F dL_areClocks_357 (by decide) ?_
                      refine g_callV (pc := 359) (rf2 := 2) (rl2 := 41) F cs_L_75 kd0 rfl (by decide) (by rfl) (by rfl) (Nat.le_of_ble_eq_true (by rfl)) (by decide) dL_areClocks_359 (w_clockOf _ g M S S P pn hCA hAI _ _) (fun v M2 hz => ?_)
                      obtain ⟨rfl, rfl⟩ := hz
                      rw [show oClockOf S (nI k) 13 = cw S k 14 from co_eq hi hk 13 (by decide)]
                      refine g_aload_n (pc := 362) F dL_areClocks_362 rfl ?_
                      refine g_iload (pc := 363) F dL_areClocks_363 rfl ?_
                      refine g_bipush (pc := 365) (v := 6) F dL_areClocks_365 (by decide) ?_
                      refine g_iadd (pc := 367) F dL_areClocks_367 ?_
                      refine g_vld (pc := 368) (i := k) (j := 6) F (ix7 k 6) (by omega) (by decide) dL_areClocks_368 ?_
                      refine g_icmp_ne (pc := 369) (tgt := 408) F dL_areClocks_369 (by decide) (fun c369 => ?_) (fun c369 => ?_)
                      · exact absurd rfl c369
                      · refine g_aload_n (pc := 372) F dL_areClocks_372 rfl ?_
                        refine g_iload (pc := 373) F dL_areClocks_373 rfl ?_
                        refine g_bipush (pc := 375) (v := 14) F dL_areClocks_375 (by decide) ?_
                        refine g_callV (pc := 377) (rf2 := 2) (rl2 := 41) F cs_L_75 kd0 rfl (by decide) (by rfl) (by rfl) (Nat.le_of_ble_eq_true (by rfl)) (by decide) dL_areClocks_377 (w_clockOf _ g M S S P pn hCA hAI _ _) (fun v M2 hz => ?_)
                        obtain ⟨rfl, rfl⟩ := hz
                        rw [show oClockOf S (nI k) 14 = -1000001 from if_neg (fun e => absurd e.2.2 (by decide))]
                        refine g_ldc (pc := 380) F wk_L_41 dL_areClocks_380 ?_
                        refine g_icmp_ne (pc := 382) (tgt := 408) F dL_areClocks_382 (by decide) (fun c382 => ?_) (fun c382 => ?_)
                        · exact absurd rfl c382
                        · refine g_aload_n (pc := 385) F dL_areClocks_385 rfl ?_
                          refine g_iload (pc := 386) F dL_areClocks_386 rfl ?_
                          refine g_callS (pc := 388) (rf2 := 0) (rl2 := 0) F cs_L_67 (by rfl) (by rfl) (Nat.le_of_ble_eq_true (by rfl)) (by decide) dL_areClocks_388 (c_L_rest _ g M S k (by omega)) (fun v M2 hz => ?_)
                          obtain ⟨rfl, rfl⟩ := hz
                          refine g_if_le (pc := 391) (tgt := 408) F dL_areClocks_391 (by decide) (fun c391 => ?_) (fun c391 => ?_)
                          · exact absurd c391 (by rw [hrest]; exact nI_nle (by omega) (by omega))
                          · refine g_aload_n (pc := 394) F dL_areClocks_394 rfl ?_
                            refine g_iload (pc := 395) F dL_areClocks_395 rfl ?_
                            refine g_bipush (pc := 397) (v := 7) F dL_areClocks_397 (by decide) ?_
                            refine g_iadd (pc := 399) F dL_areClocks_399 ?_
                            refine g_cld (pc := 400) (i := k) (j := 7) F (ix8 k 7) (by omega) (by decide) dL_areClocks_400 ?_
                            refine g_if_lt (pc := 401) (tgt := 408) F dL_areClocks_401 (by decide) (fun c401 => ?_) (fun c401 => ?_)
                            · exact absurd c401 (by rw [h7]; exact nI_nneg (by omega))
                            · refine g_iconst (pc := 404) (v := 1) F dL_areClocks_404 (by decide) ?_
                              refine g_goto (pc := 405) (tgt := 409) F dL_areClocks_405 (by decide) ?_
                              refine g_istore (pc := 409) F dL_areClocks_409 (by decide) rfl ?_
                              refine g_iinc (pc := 411) (v := nI (k + 1)) F dL_areClocks_411 rfl (nI_1 k) (by decide) rfl ?_
                              refine g_goto (pc := 414) (tgt := 50) F dL_areClocks_414 (by decide) ?_
                              exact G.sub [some (.ref (ad g 0)), some (.ref (ad g 224)), some (.ref (ad g 225)), some (.ref (ad g 226)), some (.int 1), some (.int (sumW S 63 8 (k + 1))), some (.int (sumW S 63 11 (k + 1))), some (.int (sumW S 63 12 (k + 1))), some (.int (aboutW S (k + 1))), some (.int (oldestW S (k + 1))), some (.int (nI (k + 1))), none, none, none] ⟨rfl, rfl, rfl, rfl, rfl, rfl, rfl, rfl, rfl, rfl, rfl, trivial⟩ K
              · have c3 : cw S k 8 = 0 := c303
                refine g_ldc (pc := 306) F wk_L_78 dL_areClocks_306 ?_
                refine g_goto (pc := 308) (tgt := 317) F dL_areClocks_308 (by decide) ?_
                refine g_icmp_ne (pc := 317) (tgt := 408) F dL_areClocks_317 (by decide) (fun c317 => ?_) (fun c317 => ?_)
                · exact absurd (if_pos c3) c317
                · refine g_aload_n (pc := 320) F dL_areClocks_320 rfl ?_
                  refine g_iload (pc := 321) F dL_areClocks_321 rfl ?_
                  refine g_bipush (pc := 323) (v := 11) F dL_areClocks_323 (by decide) ?_
                  refine g_callV (pc := 325) (rf2 := 2) (rl2 := 41) F cs_L_75 kd0 rfl (by decide) (by rfl) (by rfl) (Nat.le_of_ble_eq_true (by rfl)) (by decide) dL_areClocks_325 (w_clockOf _ g M S S P pn hCA hAI _ _) (fun v M2 hz => ?_)
                  obtain ⟨rfl, rfl⟩ := hz
                  rw [show oClockOf S (nI k) 11 = cw S k 12 from co_eq hi hk 11 (by decide)]
                  refine g_aload_n (pc := 328) F dL_areClocks_328 rfl ?_
                  refine g_iload (pc := 329) F dL_areClocks_329 rfl ?_
                  refine g_iconst (pc := 331) (v := 4) F dL_areClocks_331 (by decide) ?_
                  refine g_iadd (pc := 332) F dL_areClocks_332 ?_
                  refine g_vld (pc := 333) (i := k) (j := 4) F (ix7 k 4) (by omega) (by decide) dL_areClocks_333 ?_
                  refine g_icmp_ne (pc := 334) (tgt := 408) F dL_areClocks_334 (by decide) (fun c334 => ?_) (fun c334 => ?_)
                  · exact absurd rfl c334
                  · refine g_aload_n (pc := 337) F dL_areClocks_337 rfl ?_
                    refine g_iload (pc := 338) F dL_areClocks_338 rfl ?_
                    refine g_bipush (pc := 340) (v := 12) F dL_areClocks_340 (by decide) ?_
                    refine g_callV (pc := 342) (rf2 := 2) (rl2 := 41) F cs_L_75 kd0 rfl (by decide) (by rfl) (by rfl) (Nat.le_of_ble_eq_true (by rfl)) (by decide) dL_areClocks_342 (w_clockOf _ g M S S P pn hCA hAI _ _) (fun v M2 hz => ?_)
                    obtain ⟨rfl, rfl⟩ := hz
                    rw [show oClockOf S (nI k) 12 = cw S k 13 from co_eq hi hk 12 (by decide)]
                    refine g_aload_n (pc := 345) F dL_areClocks_345 rfl ?_
                    refine g_iload (pc := 346) F dL_areClocks_346 rfl ?_
                    refine g_iconst (pc := 348) (v := 5) F dL_areClocks_348 (by decide) ?_
                    refine g_iadd (pc := 349) F dL_areClocks_349 ?_
                    refine g_vld (pc := 350) (i := k) (j := 5) F (ix7 k 5) (by omega) (by decide) dL_areClocks_350 ?_
                    refine g_icmp_ne (pc := 351) (tgt := 408) F dL_areClocks_351 (by decide) (fun c351 => ?_) (fun c351 => ?_)
                    · exact absurd rfl c351
                    · refine g_aload_n (pc := 354) F dL_areClocks_354 rfl ?_
                      refine g_iload (pc := 355) F dL_areClocks_355 rfl ?_
                      refine g_bipush (pc := 357) (v := 13) F dL_areClocks_357 (by decide) ?_
                      refine g_callV (pc := 359) (rf2 := 2) (rl2 := 41) F cs_L_75 kd0 rfl (by decide) (by rfl) (by rfl) (Nat.le_of_ble_eq_true (by rfl)) (by decide) dL_areClocks_359 (w_clockOf _ g M S S P pn hCA hAI _ _) (fun v M2 hz => ?_)
                      obtain ⟨rfl, rfl⟩ := hz
                      rw [show oClockOf S (nI k) 13 = cw S k 14 from co_eq hi hk 13 (by decide)]
                      refine g_aload_n (pc := 362) F dL_areClocks_362 rfl ?_
                      refine g_iload (pc := 363) F dL_areClocks_363 rfl ?_
                      refine g_bipush (pc := 365) (v := 6) F dL_areClocks_365 (by decide) ?_
                      refine g_iadd (pc := 367) F dL_areClocks_367 ?_
                      refine g_vld (pc := 368) (i := k) (j := 6) F (ix7 k 6) (by omega) (by decide) dL_areClocks_368 ?_
                      refine g_icmp_ne (pc := 369) (tgt := 408) F dL_areClocks_369 (by decide) (fun c369 => ?_) (fun c369 => ?_)
                      · exact absurd rfl c369
                      · refine g_aload_n (pc := 372) F dL_areClocks_372 rfl ?_
                        refine g_iload (pc := 373) F dL_areClocks_373 rfl ?_
                        refine g_bipush (pc := 375) (v := 14) F dL_areClocks_375 (by decide) ?_
                        refine g_callV (pc := 377) (rf2 := 2) (rl2 := 41) F cs_L_75 kd0 rfl (by decide) (by rfl) (by rfl) (Nat.le_of_ble_eq_true (by rfl)) (by decide) dL_areClocks_377 (w_clockOf _ g M S S P pn hCA hAI _ _) (fun v M2 hz => ?_)
                        obtain ⟨rfl, rfl⟩ := hz
                        rw [show oClockOf S (nI k) 14 = -1000001 from if_neg (fun e => absurd e.2.2 (by decide))]
                        refine g_ldc (pc := 380) F wk_L_41 dL_areClocks_380 ?_
                        refine g_icmp_ne (pc := 382) (tgt := 408) F dL_areClocks_382 (by decide) (fun c382 => ?_) (fun c382 => ?_)
                        · exact absurd rfl c382
                        · refine g_aload_n (pc := 385) F dL_areClocks_385 rfl ?_
                          refine g_iload (pc := 386) F dL_areClocks_386 rfl ?_
                          refine g_callS (pc := 388) (rf2 := 0) (rl2 := 0) F cs_L_67 (by rfl) (by rfl) (Nat.le_of_ble_eq_true (by rfl)) (by decide) dL_areClocks_388 (c_L_rest _ g M S k (by omega)) (fun v M2 hz => ?_)
                          obtain ⟨rfl, rfl⟩ := hz
                          refine g_if_le (pc := 391) (tgt := 408) F dL_areClocks_391 (by decide) (fun c391 => ?_) (fun c391 => ?_)
                          · exact absurd c391 (by rw [hrest]; exact nI_nle (by omega) (by omega))
                          · refine g_aload_n (pc := 394) F dL_areClocks_394 rfl ?_
                            refine g_iload (pc := 395) F dL_areClocks_395 rfl ?_
                            refine g_bipush (pc := 397) (v := 7) F dL_areClocks_397 (by decide) ?_
                            refine g_iadd (pc := 399) F dL_areClocks_399 ?_
                            refine g_cld (pc := 400) (i := k) (j := 7) F (ix8 k 7) (by omega) (by decide) dL_areClocks_400 ?_
                            refine g_if_lt (pc := 401) (tgt := 408) F dL_areClocks_401 (by decide) (fun c401 => ?_) (fun c401 => ?_)
                            · exact absurd c401 (by rw [h7]; exact nI_nneg (by omega))
                            · refine g_iconst (pc := 404) (v := 1) F dL_areClocks_404 (by decide) ?_
                              refine g_goto (pc := 405) (tgt := 409) F dL_areClocks_405 (by decide) ?_
                              refine g_istore (pc := 409) F dL_areClocks_409 (by decide) rfl ?_
                              refine g_iinc (pc := 411) (v := nI (k + 1)) F dL_areClocks_411 rfl (nI_1 k) (by decide) rfl ?_
                              refine g_goto (pc := 414) (tgt := 50) F dL_areClocks_414 (by decide) ?_
                              exact G.sub [some (.ref (ad g 0)), some (.ref (ad g 224)), some (.ref (ad g 225)), some (.ref (ad g 226)), some (.int 1), some (.int (sumW S 63 8 (k + 1))), some (.int (sumW S 63 11 (k + 1))), some (.int (sumW S 63 12 (k + 1))), some (.int (aboutW S (k + 1))), some (.int (oldestW S (k + 1))), some (.int (nI (k + 1))), none, none, none] ⟨rfl, rfl, rfl, rfl, rfl, rfl, rfl, rfl, rfl, rfl, rfl, trivial⟩ K
theorem wv5 (w : Nat → Int32) : ∀ i, i < 5 → wv w i = w i := fun i hi => match i, hi with
  | 0, _ | 1, _ | 2, _ | 3, _ | 4, _ => rfl
set_option maxHeartbeats 4000000 in
set_option maxRecDepth 100000 in
theorem ac_160 {M : Mem} {S : SV} {X : XT} {g : Gm} (F : FX X g cL_areClocks 14 yL_areClocks.cls 4 86) (r : RX X g (some .boolean) (fun v M2 => v = some (.int 1) ∧ M2 = WM M S)) (P : Nat → SV) (pn : Nat) (hCA : CA M (S, P, pn, fun _ => 0, 0)) (hAI : AI (S, P, pn, fun _ => 0, 0)) (t : Nat) (hi : Inv S t) (k : Nat) (hk : k < cn S) (K : G X g 14 (WM M S) 50 [some (.ref (ad g 0)), some (.ref (ad g 224)), some (.ref (ad g 225)), some (.ref (ad g 226)), some (.int 1), some (.int (sumW S 63 8 (k + 1))), some (.int (sumW S 63 11 (k + 1))), some (.int (sumW S 63 12 (k + 1))), some (.int (aboutW S (k + 1))), some (.int (oldestW S (k + 1))), some (.int (nI (k + 1))), none, none, none] []) : ∀ n i : Nat, i + n = 5 → G X g 14 (WM M S) 160 [some (.ref (ad g 0)), some (.ref (ad g 224)), some (.ref (ad g 225)), some (.ref (ad g 226)), some (.int 1), some (.int (sumW S 63 8 (k + 1))), some (.int (sumW S 63 11 (k + 1))), some (.int (sumW S 63 12 (k + 1))), some (.int (aboutW S (k + 1))), some (.int (oldestW S (k + 1))), some (.int (nI k)), some (.int (8 * nI k)), some (.int (7 * nI k)), some (.int (nI i))] [] := by
  have hn := hi.cn_le
  intro n
  induction n with
  | zero =>
    intro i hin
    obtain rfl : i = 5 := by omega
    refine g_iload (pc := 160) F dL_areClocks_160 rfl ?_
    refine g_iconst (pc := 162) (v := 5) F dL_areClocks_162 (by decide) ?_
    refine g_icmp_ge (pc := 163) (tgt := 202) F dL_areClocks_163 (by decide) (fun c163 => ?_) (fun c163 => ?_)
    · exact G.sub [some (.ref (ad g 0)), some (.ref (ad g 224)), some (.ref (ad g 225)), some (.ref (ad g 226)), some (.int 1), some (.int (sumW S 63 8 (k + 1))), some (.int (sumW S 63 11 (k + 1))), some (.int (sumW S 63 12 (k + 1))), some (.int (aboutW S (k + 1))), some (.int (oldestW S (k + 1))), some (.int (nI k)), some (.int (8 * nI k)), some (.int (7 * nI k)), none] ⟨rfl, rfl, rfl, rfl, rfl, rfl, rfl, rfl, rfl, rfl, rfl, rfl, rfl, trivial⟩ (ac_202 F r P pn hCA hAI t hi k hk K)
    · exact absurd (show (5 : Int32) ≤ nI 5 by decide) c163
  | succ n ih =>
    intro i hin
    refine g_iload (pc := 160) F dL_areClocks_160 rfl ?_
    refine g_iconst (pc := 162) (v := 5) F dL_areClocks_162 (by decide) ?_
    refine g_icmp_ge (pc := 163) (tgt := 202) F dL_areClocks_163 (by decide) (fun c163 => ?_) (fun c163 => ?_)
    · exact absurd c163 (nI_ge (b := 5) (by omega) (by decide))
    · refine g_iload (pc := 166) F dL_areClocks_166 rfl ?_
      refine g_if_eq (pc := 168) (tgt := 202) F dL_areClocks_168 (by decide) (fun c168 => ?_) (fun c168 => ?_)
      · exact absurd c168 (by decide)
      · refine g_aload_n (pc := 171) F dL_areClocks_171 rfl ?_
        refine g_iload (pc := 172) F dL_areClocks_172 rfl ?_
        refine g_iload (pc := 174) F dL_areClocks_174 rfl ?_
        refine g_callV (pc := 176) (rf2 := 2) (rl2 := 41) F cs_L_75 kd0 rfl (by decide) (by rfl) (by rfl) (Nat.le_of_ble_eq_true (by rfl)) (by decide) dL_areClocks_176 (w_clockOf _ g M S S P pn hCA hAI _ _) (fun v M2 hz => ?_)
        obtain ⟨rfl, rfl⟩ := hz
        rw [show oClockOf S (nI k) (nI i) = cw S k i from (co_eq hi hk i (by omega)).trans (wv5 _ i (by omega))]
        refine g_aload_n (pc := 179) F dL_areClocks_179 rfl ?_
        refine g_iload (pc := 180) F dL_areClocks_180 rfl ?_
        refine g_iload (pc := 182) F dL_areClocks_182 rfl ?_
        refine g_iadd (pc := 184) F dL_areClocks_184 ?_
        refine g_cld (pc := 185) (i := k) (j := i) F (ix8 k i) (by omega) (by omega) dL_areClocks_185 ?_
        refine g_icmp_ne (pc := 186) (tgt := 193) F dL_areClocks_186 (by decide) (fun c186 => ?_) (fun c186 => ?_)
        · exact absurd rfl c186
        · refine g_iconst (pc := 189) (v := 1) F dL_areClocks_189 (by decide) ?_
          refine g_goto (pc := 190) (tgt := 194) F dL_areClocks_190 (by decide) ?_
          refine g_istore (pc := 194) F dL_areClocks_194 (by decide) rfl ?_
          refine g_iinc (pc := 196) (v := nI (i + 1)) F dL_areClocks_196 rfl (nI_1 i) (by decide) rfl ?_
          refine g_goto (pc := 199) (tgt := 160) F dL_areClocks_199 (by decide) ?_
          exact G.sub [some (.ref (ad g 0)), some (.ref (ad g 224)), some (.ref (ad g 225)), some (.ref (ad g 226)), some (.int 1), some (.int (sumW S 63 8 (k + 1))), some (.int (sumW S 63 11 (k + 1))), some (.int (sumW S 63 12 (k + 1))), some (.int (aboutW S (k + 1))), some (.int (oldestW S (k + 1))), some (.int (nI k)), some (.int (8 * nI k)), some (.int (7 * nI k)), some (.int (nI (i + 1)))] ⟨rfl, rfl, rfl, rfl, rfl, rfl, rfl, rfl, rfl, rfl, rfl, rfl, rfl, rfl, trivial⟩ (ih (i + 1) (by omega))
set_option maxHeartbeats 4000000 in
set_option maxRecDepth 100000 in
theorem ac_50 {M : Mem} {S : SV} {X : XT} {g : Gm} (F : FX X g cL_areClocks 14 yL_areClocks.cls 4 86) (r : RX X g (some .boolean) (fun v M2 => v = some (.int 1) ∧ M2 = WM M S)) (P : Nat → SV) (pn : Nat) (hCA : CA M (S, P, pn, fun _ => 0, 0)) (hAI : AI (S, P, pn, fun _ => 0, 0)) (t : Nat) (hi : Inv S t) : ∀ n k : Nat, k + n = cn S → G X g 14 (WM M S) 50 [some (.ref (ad g 0)), some (.ref (ad g 224)), some (.ref (ad g 225)), some (.ref (ad g 226)), some (.int 1), some (.int (sumW S 63 8 k)), some (.int (sumW S 63 11 k)), some (.int (sumW S 63 12 k)), some (.int (aboutW S k)), some (.int (oldestW S k)), some (.int (nI k)), none, none, none] [] := by
  have hn := hi.cn_le
  intro n
  induction n with
  | zero =>
    intro k hin
    obtain rfl : k = cn S := by omega
    refine g_iload (pc := 50) F dL_areClocks_50 rfl ?_
    refine g_aload_n (pc := 52) F dL_areClocks_52 rfl ?_
    refine g_iconst (pc := 53) (v := 0) F dL_areClocks_53 (by decide) ?_
    refine g_gld (pc := 54) (j := 0) F rfl (by decide) dL_areClocks_54 ?_
    rw [hn.2]
    refine g_icmp_ge (pc := 55) (tgt := 417) F dL_areClocks_55 (by decide) (fun c55 => ?_) (fun c55 => ?_)
    · exact ac_end F r P pn hCA hAI t hi
    · exact absurd (Int32.le_refl _) c55
  | succ n ih =>
    intro k hin
    have hk : k < cn S := by omega
    refine g_iload (pc := 50) F dL_areClocks_50 rfl ?_
    refine g_aload_n (pc := 52) F dL_areClocks_52 rfl ?_
    refine g_iconst (pc := 53) (v := 0) F dL_areClocks_53 (by decide) ?_
    refine g_gld (pc := 54) (j := 0) F rfl (by decide) dL_areClocks_54 ?_
    rw [hn.2]
    refine g_icmp_ge (pc := 55) (tgt := 417) F dL_areClocks_55 (by decide) (fun c55 => ?_) (fun c55 => ?_)
    · exact absurd c55 (nI_ge (by omega) (by omega))
    · refine g_iload (pc := 58) F dL_areClocks_58 rfl ?_
      refine g_if_eq (pc := 60) (tgt := 417) F dL_areClocks_60 (by decide) (fun c60 => ?_) (fun c60 => ?_)
      · exact absurd c60 (by decide)
      · refine g_bipush (pc := 63) (v := 8) F dL_areClocks_63 (by decide) ?_
        refine g_iload (pc := 65) F dL_areClocks_65 rfl ?_
        refine g_imul (pc := 67) F dL_areClocks_67 ?_
        refine g_istore (pc := 68) F dL_areClocks_68 (by decide) rfl ?_
        refine g_bipush (pc := 70) (v := 7) F dL_areClocks_70 (by decide) ?_
        refine g_iload (pc := 72) F dL_areClocks_72 rfl ?_
        refine g_imul (pc := 74) F dL_areClocks_74 ?_
        refine g_istore (pc := 75) F dL_areClocks_75 (by decide) rfl ?_
        refine g_iload (pc := 77) F dL_areClocks_77 rfl ?_
        refine g_aload_n (pc := 79) F dL_areClocks_79 rfl ?_
        refine g_iload (pc := 80) F dL_areClocks_80 rfl ?_
        refine g_vld (pc := 82) (i := k) (j := 0) F (ix70 k) (by omega) (by decide) dL_areClocks_82 ?_
        refine g_iadd (pc := 83) F dL_areClocks_83 ?_
        refine g_istore (pc := 84) F dL_areClocks_84 (by decide) rfl ?_
        refine g_iload (pc := 86) F dL_areClocks_86 rfl ?_
        refine g_aload_n (pc := 88) F dL_areClocks_88 rfl ?_
        refine g_iload (pc := 89) F dL_areClocks_89 rfl ?_
        refine g_iconst (pc := 91) (v := 4) F dL_areClocks_91 (by decide) ?_
        refine g_iadd (pc := 92) F dL_areClocks_92 ?_
        refine g_vld (pc := 93) (i := k) (j := 4) F (ix7 k 4) (by omega) (by decide) dL_areClocks_93 ?_
        refine g_iadd (pc := 94) F dL_areClocks_94 ?_
        refine g_istore (pc := 95) F dL_areClocks_95 (by decide) rfl ?_
        refine g_iload (pc := 97) F dL_areClocks_97 rfl ?_
        refine g_aload_n (pc := 99) F dL_areClocks_99 rfl ?_
        refine g_iload (pc := 100) F dL_areClocks_100 rfl ?_
        refine g_iconst (pc := 102) (v := 5) F dL_areClocks_102 (by decide) ?_
        refine g_iadd (pc := 103) F dL_areClocks_103 ?_
        refine g_vld (pc := 104) (i := k) (j := 5) F (ix7 k 5) (by omega) (by decide) dL_areClocks_104 ?_
        refine g_iadd (pc := 105) F dL_areClocks_105 ?_
        refine g_istore (pc := 106) F dL_areClocks_106 (by decide) rfl ?_
        refine g_iload (pc := 108) F dL_areClocks_108 rfl ?_
        refine g_aload_n (pc := 110) F dL_areClocks_110 rfl ?_
        refine g_iload (pc := 111) F dL_areClocks_111 rfl ?_
        refine g_callS (pc := 113) (rf2 := 0) (rl2 := 0) F cs_L_67 (by rfl) (by rfl) (Nat.le_of_ble_eq_true (by rfl)) (by decide) dL_areClocks_113 (c_L_rest _ g M S k (by omega)) (fun v M2 hz => ?_)
        obtain ⟨rfl, rfl⟩ := hz
        refine g_iconst (pc := 116) (v := 1) F dL_areClocks_116 (by decide) ?_
        refine g_icmp_ne (pc := 117) (tgt := 127) F dL_areClocks_117 (by decide) (fun c117 => ?_) (fun c117 => ?_)
        · refine g_iconst (pc := 127) (v := 0) F dL_areClocks_127 (by decide) ?_
          refine g_ior (pc := 128) F dL_areClocks_128 ?_
          refine g_istore (pc := 129) F dL_areClocks_129 (by decide) rfl ?_
          refine g_aload_n (pc := 131) F dL_areClocks_131 rfl ?_
          refine g_iload (pc := 132) F dL_areClocks_132 rfl ?_
          refine g_bipush (pc := 134) (v := 7) F dL_areClocks_134 (by decide) ?_
          refine g_iadd (pc := 136) F dL_areClocks_136 ?_
          refine g_cld (pc := 137) (i := k) (j := 7) F (ix8 k 7) (by omega) (by decide) dL_areClocks_137 ?_
          refine g_iload (pc := 138) F dL_areClocks_138 rfl ?_
          refine g_icmp_le (pc := 140) (tgt := 153) F dL_areClocks_140 (by decide) (fun c140 => ?_) (fun c140 => ?_)
          · refine g_iload (pc := 153) F dL_areClocks_153 rfl ?_
            refine g_istore (pc := 155) F dL_areClocks_155 (by decide) rfl ?_
            refine g_iconst (pc := 157) (v := 0) F dL_areClocks_157 (by decide) ?_
            refine g_istore (pc := 158) F dL_areClocks_158 (by decide) rfl ?_
            refine G.sub [some (.ref (ad g 0)), some (.ref (ad g 224)), some (.ref (ad g 225)), some (.ref (ad g 226)), some (.int 1), some (.int (sumW S 63 8 (k + 1))), some (.int (sumW S 63 11 (k + 1))), some (.int (sumW S 63 12 (k + 1))), some (.int (aboutW S (k + 1))), some (.int (oldestW S (k + 1))), some (.int (nI k)), some (.int (8 * nI k)), some (.int (7 * nI k)), some (.int (nI 0))] ⟨rfl, rfl, rfl, rfl, rfl, ?_, ?_, ?_, ?_, ?_, rfl, rfl, rfl, rfl, trivial⟩ (ac_160 F r P pn hCA hAI t hi k hk (ih (k + 1) (by omega)) 5 0 rfl)
            · rw [sum63 S 8 (by omega)] <;> rfl
            · rw [sum63 S 11 (by omega)] <;> rfl
            · rw [sum63 S 12 (by omega)] <;> rfl
            · show some (Value.int (aboutW S k ||| 0)) = some (Value.int (if restW S k = 1 then aboutW S k ||| (1 <<< (nI k &&& 31)) else aboutW S k))
              rw [if_neg c117, Int32.or_zero]
            · show some (Value.int (oldestW S k)) = some (Value.int (if oldestW S k < cw S k 7 then cw S k 7 else oldestW S k))
              rw [if_neg (Int32.not_lt.mpr c140)]
          · refine g_aload_n (pc := 143) F dL_areClocks_143 rfl ?_
            refine g_iload (pc := 144) F dL_areClocks_144 rfl ?_
            refine g_bipush (pc := 146) (v := 7) F dL_areClocks_146 (by decide) ?_
            refine g_iadd (pc := 148) F dL_areClocks_148 ?_
            refine g_cld (pc := 149) (i := k) (j := 7) F (ix8 k 7) (by omega) (by decide) dL_areClocks_149 ?_
            refine g_goto (pc := 150) (tgt := 155) F dL_areClocks_150 (by decide) ?_
            refine g_istore (pc := 155) F dL_areClocks_155 (by decide) rfl ?_
            refine g_iconst (pc := 157) (v := 0) F dL_areClocks_157 (by decide) ?_
            refine g_istore (pc := 158) F dL_areClocks_158 (by decide) rfl ?_
            refine G.sub [some (.ref (ad g 0)), some (.ref (ad g 224)), some (.ref (ad g 225)), some (.ref (ad g 226)), some (.int 1), some (.int (sumW S 63 8 (k + 1))), some (.int (sumW S 63 11 (k + 1))), some (.int (sumW S 63 12 (k + 1))), some (.int (aboutW S (k + 1))), some (.int (oldestW S (k + 1))), some (.int (nI k)), some (.int (8 * nI k)), some (.int (7 * nI k)), some (.int (nI 0))] ⟨rfl, rfl, rfl, rfl, rfl, ?_, ?_, ?_, ?_, ?_, rfl, rfl, rfl, rfl, trivial⟩ (ac_160 F r P pn hCA hAI t hi k hk (ih (k + 1) (by omega)) 5 0 rfl)
            · rw [sum63 S 8 (by omega)] <;> rfl
            · rw [sum63 S 11 (by omega)] <;> rfl
            · rw [sum63 S 12 (by omega)] <;> rfl
            · show some (Value.int (aboutW S k ||| 0)) = some (Value.int (if restW S k = 1 then aboutW S k ||| (1 <<< (nI k &&& 31)) else aboutW S k))
              rw [if_neg c117, Int32.or_zero]
            · show some (Value.int (cw S k 7)) = some (Value.int (if oldestW S k < cw S k 7 then cw S k 7 else oldestW S k))
              rw [if_pos (Int32.not_le.mp c140)]
        · refine g_iconst (pc := 120) (v := 1) F dL_areClocks_120 (by decide) ?_
          refine g_iload (pc := 121) F dL_areClocks_121 rfl ?_
          refine g_ishl (pc := 123) F dL_areClocks_123 ?_
          refine g_goto (pc := 124) (tgt := 128) F dL_areClocks_124 (by decide) ?_
          refine g_ior (pc := 128) F dL_areClocks_128 ?_
          refine g_istore (pc := 129) F dL_areClocks_129 (by decide) rfl ?_
          refine g_aload_n (pc := 131) F dL_areClocks_131 rfl ?_
          refine g_iload (pc := 132) F dL_areClocks_132 rfl ?_
          refine g_bipush (pc := 134) (v := 7) F dL_areClocks_134 (by decide) ?_
          refine g_iadd (pc := 136) F dL_areClocks_136 ?_
          refine g_cld (pc := 137) (i := k) (j := 7) F (ix8 k 7) (by omega) (by decide) dL_areClocks_137 ?_
          refine g_iload (pc := 138) F dL_areClocks_138 rfl ?_
          refine g_icmp_le (pc := 140) (tgt := 153) F dL_areClocks_140 (by decide) (fun c140 => ?_) (fun c140 => ?_)
          · refine g_iload (pc := 153) F dL_areClocks_153 rfl ?_
            refine g_istore (pc := 155) F dL_areClocks_155 (by decide) rfl ?_
            refine g_iconst (pc := 157) (v := 0) F dL_areClocks_157 (by decide) ?_
            refine g_istore (pc := 158) F dL_areClocks_158 (by decide) rfl ?_
            refine G.sub [some (.ref (ad g 0)), some (.ref (ad g 224)), some (.ref (ad g 225)), some (.ref (ad g 226)), some (.int 1), some (.int (sumW S 63 8 (k + 1))), some (.int (sumW S 63 11 (k + 1))), some (.int (sumW S 63 12 (k + 1))), some (.int (aboutW S (k + 1))), some (.int (oldestW S (k + 1))), some (.int (nI k)), some (.int (8 * nI k)), some (.int (7 * nI k)), some (.int (nI 0))] ⟨rfl, rfl, rfl, rfl, rfl, ?_, ?_, ?_, ?_, ?_, rfl, rfl, rfl, rfl, trivial⟩ (ac_160 F r P pn hCA hAI t hi k hk (ih (k + 1) (by omega)) 5 0 rfl)
            · rw [sum63 S 8 (by omega)] <;> rfl
            · rw [sum63 S 11 (by omega)] <;> rfl
            · rw [sum63 S 12 (by omega)] <;> rfl
            · show some (Value.int (aboutW S k ||| (1 <<< (nI k &&& 31)))) = some (Value.int (if restW S k = 1 then aboutW S k ||| (1 <<< (nI k &&& 31)) else aboutW S k))
              rw [if_pos c117]
            · show some (Value.int (oldestW S k)) = some (Value.int (if oldestW S k < cw S k 7 then cw S k 7 else oldestW S k))
              rw [if_neg (Int32.not_lt.mpr c140)]
          · refine g_aload_n (pc := 143) F dL_areClocks_143 rfl ?_
            refine g_iload (pc := 144) F dL_areClocks_144 rfl ?_
            refine g_bipush (pc := 146) (v := 7) F dL_areClocks_146 (by decide) ?_
            refine g_iadd (pc := 148) F dL_areClocks_148 ?_
            refine g_cld (pc := 149) (i := k) (j := 7) F (ix8 k 7) (by omega) (by decide) dL_areClocks_149 ?_
            refine g_goto (pc := 150) (tgt := 155) F dL_areClocks_150 (by decide) ?_
            refine g_istore (pc := 155) F dL_areClocks_155 (by decide) rfl ?_
            refine g_iconst (pc := 157) (v := 0) F dL_areClocks_157 (by decide) ?_
            refine g_istore (pc := 158) F dL_areClocks_158 (by decide) rfl ?_
            refine G.sub [some (.ref (ad g 0)), some (.ref (ad g 224)), some (.ref (ad g 225)), some (.ref (ad g 226)), some (.int 1), some (.int (sumW S 63 8 (k + 1))), some (.int (sumW S 63 11 (k + 1))), some (.int (sumW S 63 12 (k + 1))), some (.int (aboutW S (k + 1))), some (.int (oldestW S (k + 1))), some (.int (nI k)), some (.int (8 * nI k)), some (.int (7 * nI k)), some (.int (nI 0))] ⟨rfl, rfl, rfl, rfl, rfl, ?_, ?_, ?_, ?_, ?_, rfl, rfl, rfl, rfl, trivial⟩ (ac_160 F r P pn hCA hAI t hi k hk (ih (k + 1) (by omega)) 5 0 rfl)
            · rw [sum63 S 8 (by omega)] <;> rfl
            · rw [sum63 S 11 (by omega)] <;> rfl
            · rw [sum63 S 12 (by omega)] <;> rfl
            · show some (Value.int (aboutW S k ||| (1 <<< (nI k &&& 31)))) = some (Value.int (if restW S k = 1 then aboutW S k ||| (1 <<< (nI k &&& 31)) else aboutW S k))
              rw [if_pos c117]
            · show some (Value.int (cw S k 7)) = some (Value.int (if oldestW S k < cw S k 7 then cw S k 7 else oldestW S k))
              rw [if_pos (Int32.not_le.mp c140)]
set_option maxHeartbeats 4000000 in
set_option maxRecDepth 100000 in
theorem c_L_areClocks (l : Launch) (g : Gm) (M : Mem) (S : SV) (hJ : J M S) : Cn l yL_areClocks cL_areClocks 14 (some .boolean) 4 86 g [.ref (ad g 0), .ref (ad g 224), .ref (ad g 225), .ref (ad g 226)] (WM M S) (fun v M2 => v = some (.int 1) ∧ M2 = WM M S) := by
  refine Cn.intro (lv0 := [some (.ref (ad g 0)), some (.ref (ad g 224)), some (.ref (ad g 225)), some (.ref (ad g 226)), none, none, none, none, none, none, none, none, none, none]) 10 (by decide +kernel) (Nat.le_of_ble_eq_true rfl) rfl (fun X F r => ?_)
  obtain ⟨P, pn, hCA, hAI, hGP⟩ := hJ
  obtain ⟨t, ht, hi0⟩ := hAI.1
  have hi : Inv S t := hi0
  refine g_aload_n (pc := 0) F dL_areClocks_0 rfl ?_
  refine g_aload_n (pc := 1) F dL_areClocks_1 rfl ?_
  refine g_iconst (pc := 2) (v := 0) F dL_areClocks_2 (by decide) ?_
  refine g_gld (pc := 3) (j := 0) F rfl (by decide) dL_areClocks_3 ?_
  refine g_iconst (pc := 4) (v := 0) F dL_areClocks_4 (by decide) ?_
  refine g_callV (pc := 5) (rf2 := 2) (rl2 := 41) F cs_L_75 kd0 rfl (by decide) (by rfl) (by rfl) (Nat.le_of_ble_eq_true (by rfl)) (by decide) dL_areClocks_5 (w_clockOf _ g M S S P pn hCA hAI _ _) (fun v M2 hz => ?_)
  obtain ⟨rfl, rfl⟩ := hz
  rw [show oClockOf S (S 0) 0 = -1000001 from if_neg (fun e => Int32.lt_irrefl e.1.2)]
  refine g_ldc (pc := 8) F wk_L_41 dL_areClocks_8 ?_
  refine g_icmp_ne (pc := 10) (tgt := 28) F dL_areClocks_10 (by decide) (fun c10 => ?_) (fun c10 => ?_)
  · exact absurd rfl c10
  · refine g_aload_n (pc := 13) F dL_areClocks_13 rfl ?_
    refine g_iconst (pc := 14) (v := -1) F dL_areClocks_14 (by decide) ?_
    refine g_iconst (pc := 15) (v := 0) F dL_areClocks_15 (by decide) ?_
    refine g_callV (pc := 16) (rf2 := 2) (rl2 := 41) F cs_L_75 kd0 rfl (by decide) (by rfl) (by rfl) (Nat.le_of_ble_eq_true (by rfl)) (by decide) dL_areClocks_16 (w_clockOf _ g M S S P pn hCA hAI _ _) (fun v M2 hz => ?_)
    obtain ⟨rfl, rfl⟩ := hz
    rw [show oClockOf S (-1) 0 = -1000001 from if_neg (fun e => absurd e.1.1 (by decide))]
    refine g_ldc (pc := 19) F wk_L_41 dL_areClocks_19 ?_
    refine g_icmp_ne (pc := 21) (tgt := 28) F dL_areClocks_21 (by decide) (fun c21 => ?_) (fun c21 => ?_)
    · exact absurd rfl c21
    · refine g_iconst (pc := 24) (v := 1) F dL_areClocks_24 (by decide) ?_
      refine g_goto (pc := 25) (tgt := 29) F dL_areClocks_25 (by decide) ?_
      refine g_istore (pc := 29) F dL_areClocks_29 (by decide) rfl ?_
      refine g_iconst (pc := 31) (v := 0) F dL_areClocks_31 (by decide) ?_
      refine g_istore (pc := 32) F dL_areClocks_32 (by decide) rfl ?_
      refine g_iconst (pc := 34) (v := 0) F dL_areClocks_34 (by decide) ?_
      refine g_istore (pc := 35) F dL_areClocks_35 (by decide) rfl ?_
      refine g_iconst (pc := 37) (v := 0) F dL_areClocks_37 (by decide) ?_
      refine g_istore (pc := 38) F dL_areClocks_38 (by decide) rfl ?_
      refine g_iconst (pc := 40) (v := 0) F dL_areClocks_40 (by decide) ?_
      refine g_istore (pc := 41) F dL_areClocks_41 (by decide) rfl ?_
      refine g_ldc (pc := 43) F wk_L_78 dL_areClocks_43 ?_
      refine g_istore (pc := 45) F dL_areClocks_45 (by decide) rfl ?_
      refine g_iconst (pc := 47) (v := 0) F dL_areClocks_47 (by decide) ?_
      refine g_istore (pc := 48) F dL_areClocks_48 (by decide) rfl ?_
      exact G.sub [some (.ref (ad g 0)), some (.ref (ad g 224)), some (.ref (ad g 225)), some (.ref (ad g 226)), some (.int 1), some (.int (sumW S 63 8 0)), some (.int (sumW S 63 11 0)), some (.int (sumW S 63 12 0)), some (.int (aboutW S 0)), some (.int (oldestW S 0)), some (.int (nI 0)), none, none, none] ⟨rfl, rfl, rfl, rfl, rfl, rfl, rfl, rfl, rfl, rfl, rfl, trivial⟩ (ac_50 F r P pn hCA hAI t hi (cn S) 0 (by omega))
