/-! the law looks at the groups -/
theorem go_eq {S : SV} {t k : Nat} (hi : Inv S t) (hk : k < gn S) (q : Nat) (hq : q ≤ 5) : oGroupOf S (nI k) (nI q) = grW S k q := by
  have h4 := hi.gn_le.1
  unfold oGroupOf
  rw [if_pos ⟨inG_of hi hk, nI_pos' (by omega), (nI_leI (b := 5) (by omega) (by decide)).mpr hq⟩, ixN_nI (by omega), ixN_nI (by omega)]
theorem bit_shr : ∀ z, z < 64 → ∀ i, i < 6 → ((nI z >>> (nI i &&& 31)) &&& 1 = 1 ↔ ¬ nI z &&& ((1 : Int32) <<< (nI i &&& 31)) = 0) := by decide +kernel
theorem rest_pos {S : SV} {t i : Nat} (hi : Inv S t) (h : i < cn S) : ∃ q, 1 ≤ q ∧ q ≤ 50 ∧ restW S i = nI q := by
  obtain ⟨la, a, b, c, d, p, gp, ag, sm, sq, hL, h5, hp, h6, gp1, gp2, h7, ha, -⟩ := hi.2.2.2.2.2.1 i h
  refine ⟨gp - ag, by omega, by omega, ?_⟩
  show cw S i 6 - cw S i 7 = _
  rw [h6, h7, nI_sub (by omega)]
theorem leastW_pos {S : SV} {t : Nat} (hi : Inv S t) (z : Int32) : ∀ i, i ≤ cn S → leastW S z i = -1000004 ∨ ¬ leastW S z i < 0 := by
  intro i
  induction i with
  | zero => intro _; exact Or.inl rfl
  | succ i ih =>
    intro h
    unfold leastW
    split
    · right
      obtain ⟨q, q1, q2, q3⟩ := rest_pos hi (show i < cn S by omega)
      rw [q3]
      exact nI_nneg (by omega)
    · exact ih (by omega)
set_option maxHeartbeats 4000000 in
set_option maxRecDepth 100000 in
theorem ag_161 {M : Mem} {S : SV} {X : XT} {g : Gm} (F : FX X g cL_areGroups 10 yL_areGroups.cls 4 88) (r : RX X g (some .boolean) (fun v M2 => v = some (.int 1) ∧ M2 = WM M S)) (P : Nat → SV) (pn : Nat) (hCA : CA M (S, P, pn, fun _ => 0, 0)) (hAI : AI (S, P, pn, fun _ => 0, 0)) (hGP : GP S) (t : Nat) (hi : Inv S t) (k : Nat) (hk : k < gn S) (K : G X g 10 (WM M S) 34 [some (.ref (ad g 0)), some (.ref (ad g 224)), some (.ref (ad g 225)), some (.ref (ad g 226)), some (.ref (ad g 227)), some (.int 1), some (.int (nI (k + 1))), none, none, none] []) : G X g 10 (WM M S) 161 [some (.ref (ad g 0)), some (.ref (ad g 224)), some (.ref (ad g 225)), some (.ref (ad g 226)), some (.ref (ad g 227)), some (.int 1), some (.int (nI k)), some (.int (sumW S (gw S k 1) 9 (cn S))), some (.int (leastW S (gw S k 1) (cn S))), some (.int (nI (cn S)))] [] := by
  have hn := hi.cn_le
  have hm := hi.gn_le
  refine g_iload (pc := 161) F dL_areGroups_161 rfl ?_
  refine g_if_eq (pc := 163) (tgt := 281) F dL_areGroups_163 (by decide) (fun c163 => ?_) (fun c163 => ?_)
  · exact absurd c163 (by decide)
  · refine g_aload_n (pc := 166) F dL_areGroups_166 rfl ?_
    refine g_iload (pc := 167) F dL_areGroups_167 rfl ?_
    refine g_iconst (pc := 169) (v := 0) F dL_areGroups_169 (by decide) ?_
    refine g_callV (pc := 170) (rf2 := 3) (rl2 := 65) F cs_L_82 kd0 rfl (by decide) (by rfl) (by rfl) (Nat.le_of_ble_eq_true (by rfl)) (by decide) dL_areGroups_170 (w_groupOf _ g M S S P pn hCA hAI _ _) (fun v M2 hz => ?_)
    obtain ⟨rfl, rfl⟩ := hz
    rw [show oGroupOf S (nI k) 0 = gw S k 0 from go_eq hi hk 0 (by decide)]
    refine g_aload (pc := 173) F dL_areGroups_173 rfl ?_
    refine g_iconst (pc := 175) (v := 4) F dL_areGroups_175 (by decide) ?_
    refine g_iload (pc := 176) F dL_areGroups_176 rfl ?_
    refine g_imul (pc := 178) F dL_areGroups_178 ?_
    refine g_qld (pc := 179) (i := k) (j := 0) F (ix40 k) (by omega) (by decide) dL_areGroups_179 ?_
    refine g_icmp_ne (pc := 180) (tgt := 281) F dL_areGroups_180 (by decide) (fun c180 => ?_) (fun c180 => ?_)
    · exact absurd rfl c180
    · refine g_aload_n (pc := 183) F dL_areGroups_183 rfl ?_
      refine g_iload (pc := 184) F dL_areGroups_184 rfl ?_
      refine g_iconst (pc := 186) (v := 1) F dL_areGroups_186 (by decide) ?_
      refine g_callV (pc := 187) (rf2 := 3) (rl2 := 65) F cs_L_82 kd0 rfl (by decide) (by rfl) (by rfl) (Nat.le_of_ble_eq_true (by rfl)) (by decide) dL_areGroups_187 (w_groupOf _ g M S S P pn hCA hAI _ _) (fun v M2 hz => ?_)
      obtain ⟨rfl, rfl⟩ := hz
      rw [show oGroupOf S (nI k) 1 = gw S k 1 from go_eq hi hk 1 (by decide)]
      refine g_aload (pc := 190) F dL_areGroups_190 rfl ?_
      refine g_iconst (pc := 192) (v := 4) F dL_areGroups_192 (by decide) ?_
      refine g_iload (pc := 193) F dL_areGroups_193 rfl ?_
      refine g_imul (pc := 195) F dL_areGroups_195 ?_
      refine g_iconst (pc := 196) (v := 1) F dL_areGroups_196 (by decide) ?_
      refine g_iadd (pc := 197) F dL_areGroups_197 ?_
      refine g_qld (pc := 198) (i := k) (j := 1) F (ix4 k 1) (by omega) (by decide) dL_areGroups_198 ?_
      refine g_icmp_ne (pc := 199) (tgt := 281) F dL_areGroups_199 (by decide) (fun c199 => ?_) (fun c199 => ?_)
      · exact absurd rfl c199
      · refine g_aload_n (pc := 202) F dL_areGroups_202 rfl ?_
        refine g_iload (pc := 203) F dL_areGroups_203 rfl ?_
        refine g_iconst (pc := 205) (v := 2) F dL_areGroups_205 (by decide) ?_
        refine g_callV (pc := 206) (rf2 := 3) (rl2 := 65) F cs_L_82 kd0 rfl (by decide) (by rfl) (by rfl) (Nat.le_of_ble_eq_true (by rfl)) (by decide) dL_areGroups_206 (w_groupOf _ g M S S P pn hCA hAI _ _) (fun v M2 hz => ?_)
        obtain ⟨rfl, rfl⟩ := hz
        rw [show oGroupOf S (nI k) 2 = leastW S (gw S k 1) (cn S) from go_eq hi hk 2 (by decide)]
        refine g_iload (pc := 209) F dL_areGroups_209 rfl ?_
        refine g_icmp_ne (pc := 211) (tgt := 281) F dL_areGroups_211 (by decide) (fun c211 => ?_) (fun c211 => ?_)
        · exact absurd rfl c211
        · refine g_aload_n (pc := 214) F dL_areGroups_214 rfl ?_
          refine g_iload (pc := 215) F dL_areGroups_215 rfl ?_
          refine g_iconst (pc := 217) (v := 3) F dL_areGroups_217 (by decide) ?_
          refine g_callV (pc := 218) (rf2 := 3) (rl2 := 65) F cs_L_82 kd0 rfl (by decide) (by rfl) (by rfl) (Nat.le_of_ble_eq_true (by rfl)) (by decide) dL_areGroups_218 (w_groupOf _ g M S S P pn hCA hAI _ _) (fun v M2 hz => ?_)
          obtain ⟨rfl, rfl⟩ := hz
          rw [show oGroupOf S (nI k) 3 = gw S k 2 from go_eq hi hk 3 (by decide)]
          refine g_aload (pc := 221) F dL_areGroups_221 rfl ?_
          refine g_iconst (pc := 223) (v := 4) F dL_areGroups_223 (by decide) ?_
          refine g_iload (pc := 224) F dL_areGroups_224 rfl ?_
          refine g_imul (pc := 226) F dL_areGroups_226 ?_
          refine g_iconst (pc := 227) (v := 2) F dL_areGroups_227 (by decide) ?_
          refine g_iadd (pc := 228) F dL_areGroups_228 ?_
          refine g_qld (pc := 229) (i := k) (j := 2) F (ix4 k 2) (by omega) (by decide) dL_areGroups_229 ?_
          refine g_icmp_ne (pc := 230) (tgt := 281) F dL_areGroups_230 (by decide) (fun c230 => ?_) (fun c230 => ?_)
          · exact absurd rfl c230
          · refine g_aload_n (pc := 233) F dL_areGroups_233 rfl ?_
            refine g_iload (pc := 234) F dL_areGroups_234 rfl ?_
            refine g_iconst (pc := 236) (v := 4) F dL_areGroups_236 (by decide) ?_
            refine g_callV (pc := 237) (rf2 := 3) (rl2 := 65) F cs_L_82 kd0 rfl (by decide) (by rfl) (by rfl) (Nat.le_of_ble_eq_true (by rfl)) (by decide) dL_areGroups_237 (w_groupOf _ g M S S P pn hCA hAI _ _) (fun v M2 hz => ?_)
            obtain ⟨rfl, rfl⟩ := hz
            rw [show oGroupOf S (nI k) 4 = gw S k 3 from go_eq hi hk 4 (by decide)]
            refine g_aload (pc := 240) F dL_areGroups_240 rfl ?_
            refine g_iconst (pc := 242) (v := 4) F dL_areGroups_242 (by decide) ?_
            refine g_iload (pc := 243) F dL_areGroups_243 rfl ?_
            refine g_imul (pc := 245) F dL_areGroups_245 ?_
            refine g_iconst (pc := 246) (v := 3) F dL_areGroups_246 (by decide) ?_
            refine g_iadd (pc := 247) F dL_areGroups_247 ?_
            refine g_qld (pc := 248) (i := k) (j := 3) F (ix4 k 3) (by omega) (by decide) dL_areGroups_248 ?_
            refine g_icmp_ne (pc := 249) (tgt := 281) F dL_areGroups_249 (by decide) (fun c249 => ?_) (fun c249 => ?_)
            · exact absurd rfl c249
            · refine g_aload_n (pc := 252) F dL_areGroups_252 rfl ?_
              refine g_iload (pc := 253) F dL_areGroups_253 rfl ?_
              refine g_iconst (pc := 255) (v := 5) F dL_areGroups_255 (by decide) ?_
              refine g_callV (pc := 256) (rf2 := 3) (rl2 := 65) F cs_L_82 kd0 rfl (by decide) (by rfl) (by rfl) (Nat.le_of_ble_eq_true (by rfl)) (by decide) dL_areGroups_256 (w_groupOf _ g M S S P pn hCA hAI _ _) (fun v M2 hz => ?_)
              obtain ⟨rfl, rfl⟩ := hz
              rw [show oGroupOf S (nI k) 5 = sumW S (gw S k 1) 9 (cn S) from go_eq hi hk 5 (by decide)]
              refine g_iload (pc := 259) F dL_areGroups_259 rfl ?_
              refine g_icmp_ne (pc := 261) (tgt := 281) F dL_areGroups_261 (by decide) (fun c261 => ?_) (fun c261 => ?_)
              · exact absurd rfl c261
              · refine g_aload_n (pc := 264) F dL_areGroups_264 rfl ?_
                refine g_iload (pc := 265) F dL_areGroups_265 rfl ?_
                refine g_bipush (pc := 267) (v := 6) F dL_areGroups_267 (by decide) ?_
                refine g_callV (pc := 269) (rf2 := 3) (rl2 := 65) F cs_L_82 kd0 rfl (by decide) (by rfl) (by rfl) (Nat.le_of_ble_eq_true (by rfl)) (by decide) dL_areGroups_269 (w_groupOf _ g M S S P pn hCA hAI _ _) (fun v M2 hz => ?_)
                obtain ⟨rfl, rfl⟩ := hz
                rw [show oGroupOf S (nI k) 6 = -1000001 from if_neg (fun e => absurd e.2.2 (by decide))]
                refine g_ldc (pc := 272) F wk_L_41 dL_areGroups_272 ?_
                refine g_icmp_ne (pc := 274) (tgt := 281) F dL_areGroups_274 (by decide) (fun c274 => ?_) (fun c274 => ?_)
                · exact absurd rfl c274
                · refine g_iconst (pc := 277) (v := 1) F dL_areGroups_277 (by decide) ?_
                  refine g_goto (pc := 278) (tgt := 282) F dL_areGroups_278 (by decide) ?_
                  refine g_istore (pc := 282) F dL_areGroups_282 (by decide) rfl ?_
                  refine g_iinc (pc := 284) (v := nI (k + 1)) F dL_areGroups_284 rfl (nI_1 k) (by decide) rfl ?_
                  refine g_goto (pc := 287) (tgt := 34) F dL_areGroups_287 (by decide) ?_
                  exact G.sub [some (.ref (ad g 0)), some (.ref (ad g 224)), some (.ref (ad g 225)), some (.ref (ad g 226)), some (.ref (ad g 227)), some (.int 1), some (.int (nI (k + 1))), none, none, none] ⟨rfl, rfl, rfl, rfl, rfl, rfl, rfl, trivial⟩ K
set_option maxHeartbeats 4000000 in
set_option maxRecDepth 100000 in
theorem ag_57 {M : Mem} {S : SV} {X : XT} {g : Gm} (F : FX X g cL_areGroups 10 yL_areGroups.cls 4 88) (r : RX X g (some .boolean) (fun v M2 => v = some (.int 1) ∧ M2 = WM M S)) (P : Nat → SV) (pn : Nat) (hCA : CA M (S, P, pn, fun _ => 0, 0)) (hAI : AI (S, P, pn, fun _ => 0, 0)) (hGP : GP S) (t : Nat) (hi : Inv S t) (k : Nat) (hk : k < gn S) (K : G X g 10 (WM M S) 34 [some (.ref (ad g 0)), some (.ref (ad g 224)), some (.ref (ad g 225)), some (.ref (ad g 226)), some (.ref (ad g 227)), some (.int 1), some (.int (nI (k + 1))), none, none, none] []) : ∀ n i : Nat, i + n = cn S → G X g 10 (WM M S) 57 [some (.ref (ad g 0)), some (.ref (ad g 224)), some (.ref (ad g 225)), some (.ref (ad g 226)), some (.ref (ad g 227)), some (.int 1), some (.int (nI k)), some (.int (sumW S (gw S k 1) 9 i)), some (.int (leastW S (gw S k 1) i)), some (.int (nI i))] [] := by
  have hn := hi.cn_le
  have hm := hi.gn_le
  obtain ⟨gla, z, mt, -, -, hz1, hz6, -⟩ := hi.2.2.2.2.2.2 k hk
  intro n
  induction n with
  | zero =>
    intro i hin
    obtain rfl : i = cn S := by omega
    refine g_iload (pc := 57) F dL_areGroups_57 rfl ?_
    refine g_aload_n (pc := 59) F dL_areGroups_59 rfl ?_
    refine g_iconst (pc := 60) (v := 0) F dL_areGroups_60 (by decide) ?_
    refine g_gld (pc := 61) (j := 0) F rfl (by decide) dL_areGroups_61 ?_
    rw [hn.2]
    refine g_icmp_ge (pc := 62) (tgt := 161) F dL_areGroups_62 (by decide) (fun c62 => ?_) (fun c62 => ?_)
    · exact ag_161 F r P pn hCA hAI hGP t hi k hk K
    · exact absurd (Int32.le_refl _) c62
  | succ n ih =>
    intro i hin0
    refine g_iload (pc := 57) F dL_areGroups_57 rfl ?_
    refine g_aload_n (pc := 59) F dL_areGroups_59 rfl ?_
    refine g_iconst (pc := 60) (v := 0) F dL_areGroups_60 (by decide) ?_
    refine g_gld (pc := 61) (j := 0) F rfl (by decide) dL_areGroups_61 ?_
    rw [hn.2]
    refine g_icmp_ge (pc := 62) (tgt := 161) F dL_areGroups_62 (by decide) (fun c62 => ?_) (fun c62 => ?_)
    · exact absurd c62 (nI_ge (by omega) (by omega))
    · refine g_aload (pc := 65) F dL_areGroups_65 rfl ?_
      refine g_iconst (pc := 67) (v := 4) F dL_areGroups_67 (by decide) ?_
      refine g_iload (pc := 68) F dL_areGroups_68 rfl ?_
      refine g_imul (pc := 70) F dL_areGroups_70 ?_
      refine g_iconst (pc := 71) (v := 1) F dL_areGroups_71 (by decide) ?_
      refine g_iadd (pc := 72) F dL_areGroups_72 ?_
      refine g_qld (pc := 73) (i := k) (j := 1) F (ix4 k 1) (by omega) (by decide) dL_areGroups_73 ?_
      refine g_iload (pc := 74) F dL_areGroups_74 rfl ?_
      refine g_ishr (pc := 76) F dL_areGroups_76 ?_
      refine g_iconst (pc := 77) (v := 1) F dL_areGroups_77 (by decide) ?_
      refine g_iand (pc := 78) F dL_areGroups_78 ?_
      refine g_iconst (pc := 79) (v := 1) F dL_areGroups_79 (by decide) ?_
      refine g_icmp_ne (pc := 80) (tgt := 155) F dL_areGroups_80 (by decide) (fun c80 => ?_) (fun c80 => ?_)
      · have hin : ¬ isIn (gw S k 1) i := fun e => c80 (by rw [hz1] at e ⊢; exact (bit_shr z hz6 i (by omega)).mpr e)
        refine g_iinc (pc := 155) (v := nI (i + 1)) F dL_areGroups_155 rfl (nI_1 i) (by decide) rfl ?_
        refine g_goto (pc := 158) (tgt := 57) F dL_areGroups_158 (by decide) ?_
        refine G.sub [some (.ref (ad g 0)), some (.ref (ad g 224)), some (.ref (ad g 225)), some (.ref (ad g 226)), some (.ref (ad g 227)), some (.int 1), some (.int (nI k)), some (.int (sumW S (gw S k 1) 9 (i + 1))), some (.int (leastW S (gw S k 1) (i + 1))), some (.int (nI (i + 1)))] ⟨rfl, rfl, rfl, rfl, rfl, rfl, rfl, ?_, ?_, rfl, trivial⟩ (ih (i + 1) (by omega))
        · show some (Value.int (sumW S (gw S k 1) 9 i)) = some (Value.int (if isIn (gw S k 1) i then sumW S (gw S k 1) 9 i + wv (cw S i) 9 else sumW S (gw S k 1) 9 i))
          rw [if_neg hin]
        · show some (Value.int (leastW S (gw S k 1) i)) = some (Value.int (if isIn (gw S k 1) i ∧ (leastW S (gw S k 1) i = -1000004 ∨ restW S i < leastW S (gw S k 1) i) then restW S i else leastW S (gw S k 1) i))
          rw [if_neg (fun e => hin e.1)]
      · have hin : isIn (gw S k 1) i := by rw [hz1] at c80 ⊢; exact (bit_shr z hz6 i (by omega)).mp c80
        refine g_iload (pc := 83) F dL_areGroups_83 rfl ?_
        refine g_aload_n (pc := 85) F dL_areGroups_85 rfl ?_
        refine g_bipush (pc := 86) (v := 7) F dL_areGroups_86 (by decide) ?_
        refine g_iload (pc := 88) F dL_areGroups_88 rfl ?_
        refine g_imul (pc := 90) F dL_areGroups_90 ?_
        refine g_iconst (pc := 91) (v := 1) F dL_areGroups_91 (by decide) ?_
        refine g_iadd (pc := 92) F dL_areGroups_92 ?_
        refine g_vld (pc := 93) (i := i) (j := 1) F (ix7 i 1) (by omega) (by decide) dL_areGroups_93 ?_
        refine g_iadd (pc := 94) F dL_areGroups_94 ?_
        refine g_istore (pc := 95) F dL_areGroups_95 (by decide) rfl ?_
        refine g_iload (pc := 97) F dL_areGroups_97 rfl ?_
        refine g_if_lt (pc := 99) (tgt := 113) F dL_areGroups_99 (by decide) (fun c99 => ?_) (fun c99 => ?_)
        · refine g_aload_n (pc := 113) F dL_areGroups_113 rfl ?_
          refine g_iload (pc := 114) F dL_areGroups_114 rfl ?_
          refine g_callS (pc := 116) (rf2 := 0) (rl2 := 0) F cs_L_67 (by rfl) (by rfl) (Nat.le_of_ble_eq_true (by rfl)) (by decide) dL_areGroups_116 (c_L_rest _ g M S i (by omega)) (fun v M2 hz => ?_)
          obtain ⟨rfl, rfl⟩ := hz
          refine g_goto (pc := 119) (tgt := 124) F dL_areGroups_119 (by decide) ?_
          refine g_istore (pc := 124) F dL_areGroups_124 (by decide) rfl ?_
          refine g_iload (pc := 126) F dL_areGroups_126 rfl ?_
          refine g_if_eq (pc := 128) (tgt := 152) F dL_areGroups_128 (by decide) (fun c128 => ?_) (fun c128 => ?_)
          · exact absurd c128 (by decide)
          · refine g_aload_n (pc := 131) F dL_areGroups_131 rfl ?_
            refine g_bipush (pc := 132) (v := 8) F dL_areGroups_132 (by decide) ?_
            refine g_iload (pc := 134) F dL_areGroups_134 rfl ?_
            refine g_imul (pc := 136) F dL_areGroups_136 ?_
            refine g_cld (pc := 137) (i := i) (j := 0) F (ix80 i) (by omega) (by decide) dL_areGroups_137 ?_
            refine g_aload (pc := 138) F dL_areGroups_138 rfl ?_
            refine g_iconst (pc := 140) (v := 4) F dL_areGroups_140 (by decide) ?_
            refine g_iload (pc := 141) F dL_areGroups_141 rfl ?_
            refine g_imul (pc := 143) F dL_areGroups_143 ?_
            refine g_qld (pc := 144) (i := k) (j := 0) F (ix40 k) (by omega) (by decide) dL_areGroups_144 ?_
            refine g_icmp_ne (pc := 145) (tgt := 152) F dL_areGroups_145 (by decide) (fun c145 => ?_) (fun c145 => ?_)
            · exact absurd (hGP k hk i (by omega) hin).2 c145
            · refine g_iconst (pc := 148) (v := 1) F dL_areGroups_148 (by decide) ?_
              refine g_goto (pc := 149) (tgt := 153) F dL_areGroups_149 (by decide) ?_
              refine g_istore (pc := 153) F dL_areGroups_153 (by decide) rfl ?_
              refine g_iinc (pc := 155) (v := nI (i + 1)) F dL_areGroups_155 rfl (nI_1 i) (by decide) rfl ?_
              refine g_goto (pc := 158) (tgt := 57) F dL_areGroups_158 (by decide) ?_
              refine G.sub [some (.ref (ad g 0)), some (.ref (ad g 224)), some (.ref (ad g 225)), some (.ref (ad g 226)), some (.ref (ad g 227)), some (.int 1), some (.int (nI k)), some (.int (sumW S (gw S k 1) 9 (i + 1))), some (.int (leastW S (gw S k 1) (i + 1))), some (.int (nI (i + 1)))] ⟨rfl, rfl, rfl, rfl, rfl, rfl, rfl, ?_, ?_, rfl, trivial⟩ (ih (i + 1) (by omega))
              · show some (Value.int (sumW S (gw S k 1) 9 i + cw S i 9)) = some (Value.int (if isIn (gw S k 1) i then sumW S (gw S k 1) 9 i + wv (cw S i) 9 else sumW S (gw S k 1) 9 i))
                rw [if_pos hin] <;> rfl
              · show some (Value.int (restW S i)) = some (Value.int (if isIn (gw S k 1) i ∧ (leastW S (gw S k 1) i = -1000004 ∨ restW S i < leastW S (gw S k 1) i) then restW S i else leastW S (gw S k 1) i))
                rw [if_pos ⟨hin, Or.inl ((leastW_pos hi (gw S k 1) i (by omega)).resolve_right (fun e => e c99))⟩]
        · refine g_aload_n (pc := 102) F dL_areGroups_102 rfl ?_
          refine g_iload (pc := 103) F dL_areGroups_103 rfl ?_
          refine g_callS (pc := 105) (rf2 := 0) (rl2 := 0) F cs_L_67 (by rfl) (by rfl) (Nat.le_of_ble_eq_true (by rfl)) (by decide) dL_areGroups_105 (c_L_rest _ g M S i (by omega)) (fun v M2 hz => ?_)
          obtain ⟨rfl, rfl⟩ := hz
          refine g_iload (pc := 108) F dL_areGroups_108 rfl ?_
          refine g_icmp_ge (pc := 110) (tgt := 122) F dL_areGroups_110 (by decide) (fun c110 => ?_) (fun c110 => ?_)
          · refine g_iload (pc := 122) F dL_areGroups_122 rfl ?_
            refine g_istore (pc := 124) F dL_areGroups_124 (by decide) rfl ?_
            refine g_iload (pc := 126) F dL_areGroups_126 rfl ?_
            refine g_if_eq (pc := 128) (tgt := 152) F dL_areGroups_128 (by decide) (fun c128 => ?_) (fun c128 => ?_)
            · exact absurd c128 (by decide)
            · refine g_aload_n (pc := 131) F dL_areGroups_131 rfl ?_
              refine g_bipush (pc := 132) (v := 8) F dL_areGroups_132 (by decide) ?_
              refine g_iload (pc := 134) F dL_areGroups_134 rfl ?_
              refine g_imul (pc := 136) F dL_areGroups_136 ?_
              refine g_cld (pc := 137) (i := i) (j := 0) F (ix80 i) (by omega) (by decide) dL_areGroups_137 ?_
              refine g_aload (pc := 138) F dL_areGroups_138 rfl ?_
              refine g_iconst (pc := 140) (v := 4) F dL_areGroups_140 (by decide) ?_
              refine g_iload (pc := 141) F dL_areGroups_141 rfl ?_
              refine g_imul (pc := 143) F dL_areGroups_143 ?_
              refine g_qld (pc := 144) (i := k) (j := 0) F (ix40 k) (by omega) (by decide) dL_areGroups_144 ?_
              refine g_icmp_ne (pc := 145) (tgt := 152) F dL_areGroups_145 (by decide) (fun c145 => ?_) (fun c145 => ?_)
              · exact absurd (hGP k hk i (by omega) hin).2 c145
              · refine g_iconst (pc := 148) (v := 1) F dL_areGroups_148 (by decide) ?_
                refine g_goto (pc := 149) (tgt := 153) F dL_areGroups_149 (by decide) ?_
                refine g_istore (pc := 153) F dL_areGroups_153 (by decide) rfl ?_
                refine g_iinc (pc := 155) (v := nI (i + 1)) F dL_areGroups_155 rfl (nI_1 i) (by decide) rfl ?_
                refine g_goto (pc := 158) (tgt := 57) F dL_areGroups_158 (by decide) ?_
                refine G.sub [some (.ref (ad g 0)), some (.ref (ad g 224)), some (.ref (ad g 225)), some (.ref (ad g 226)), some (.ref (ad g 227)), some (.int 1), some (.int (nI k)), some (.int (sumW S (gw S k 1) 9 (i + 1))), some (.int (leastW S (gw S k 1) (i + 1))), some (.int (nI (i + 1)))] ⟨rfl, rfl, rfl, rfl, rfl, rfl, rfl, ?_, ?_, rfl, trivial⟩ (ih (i + 1) (by omega))
                · show some (Value.int (sumW S (gw S k 1) 9 i + cw S i 9)) = some (Value.int (if isIn (gw S k 1) i then sumW S (gw S k 1) 9 i + wv (cw S i) 9 else sumW S (gw S k 1) 9 i))
                  rw [if_pos hin] <;> rfl
                · show some (Value.int (leastW S (gw S k 1) i)) = some (Value.int (if isIn (gw S k 1) i ∧ (leastW S (gw S k 1) i = -1000004 ∨ restW S i < leastW S (gw S k 1) i) then restW S i else leastW S (gw S k 1) i))
                  rw [if_neg (fun e => e.2.elim (fun q => c99 (by rw [q]; decide)) (fun q => Int32.not_lt.mpr c110 q))]
          · refine g_aload_n (pc := 113) F dL_areGroups_113 rfl ?_
            refine g_iload (pc := 114) F dL_areGroups_114 rfl ?_
            refine g_callS (pc := 116) (rf2 := 0) (rl2 := 0) F cs_L_67 (by rfl) (by rfl) (Nat.le_of_ble_eq_true (by rfl)) (by decide) dL_areGroups_116 (c_L_rest _ g M S i (by omega)) (fun v M2 hz => ?_)
            obtain ⟨rfl, rfl⟩ := hz
            refine g_goto (pc := 119) (tgt := 124) F dL_areGroups_119 (by decide) ?_
            refine g_istore (pc := 124) F dL_areGroups_124 (by decide) rfl ?_
            refine g_iload (pc := 126) F dL_areGroups_126 rfl ?_
            refine g_if_eq (pc := 128) (tgt := 152) F dL_areGroups_128 (by decide) (fun c128 => ?_) (fun c128 => ?_)
            · exact absurd c128 (by decide)
            · refine g_aload_n (pc := 131) F dL_areGroups_131 rfl ?_
              refine g_bipush (pc := 132) (v := 8) F dL_areGroups_132 (by decide) ?_
              refine g_iload (pc := 134) F dL_areGroups_134 rfl ?_
              refine g_imul (pc := 136) F dL_areGroups_136 ?_
              refine g_cld (pc := 137) (i := i) (j := 0) F (ix80 i) (by omega) (by decide) dL_areGroups_137 ?_
              refine g_aload (pc := 138) F dL_areGroups_138 rfl ?_
              refine g_iconst (pc := 140) (v := 4) F dL_areGroups_140 (by decide) ?_
              refine g_iload (pc := 141) F dL_areGroups_141 rfl ?_
              refine g_imul (pc := 143) F dL_areGroups_143 ?_
              refine g_qld (pc := 144) (i := k) (j := 0) F (ix40 k) (by omega) (by decide) dL_areGroups_144 ?_
              refine g_icmp_ne (pc := 145) (tgt := 152) F dL_areGroups_145 (by decide) (fun c145 => ?_) (fun c145 => ?_)
              · exact absurd (hGP k hk i (by omega) hin).2 c145
              · refine g_iconst (pc := 148) (v := 1) F dL_areGroups_148 (by decide) ?_
                refine g_goto (pc := 149) (tgt := 153) F dL_areGroups_149 (by decide) ?_
                refine g_istore (pc := 153) F dL_areGroups_153 (by decide) rfl ?_
                refine g_iinc (pc := 155) (v := nI (i + 1)) F dL_areGroups_155 rfl (nI_1 i) (by decide) rfl ?_
                refine g_goto (pc := 158) (tgt := 57) F dL_areGroups_158 (by decide) ?_
                refine G.sub [some (.ref (ad g 0)), some (.ref (ad g 224)), some (.ref (ad g 225)), some (.ref (ad g 226)), some (.ref (ad g 227)), some (.int 1), some (.int (nI k)), some (.int (sumW S (gw S k 1) 9 (i + 1))), some (.int (leastW S (gw S k 1) (i + 1))), some (.int (nI (i + 1)))] ⟨rfl, rfl, rfl, rfl, rfl, rfl, rfl, ?_, ?_, rfl, trivial⟩ (ih (i + 1) (by omega))
                · show some (Value.int (sumW S (gw S k 1) 9 i + cw S i 9)) = some (Value.int (if isIn (gw S k 1) i then sumW S (gw S k 1) 9 i + wv (cw S i) 9 else sumW S (gw S k 1) 9 i))
                  rw [if_pos hin] <;> rfl
                · show some (Value.int (restW S i)) = some (Value.int (if isIn (gw S k 1) i ∧ (leastW S (gw S k 1) i = -1000004 ∨ restW S i < leastW S (gw S k 1) i) then restW S i else leastW S (gw S k 1) i))
                  rw [if_pos ⟨hin, Or.inr (Int32.not_le.mp c110)⟩]
set_option maxHeartbeats 4000000 in
set_option maxRecDepth 100000 in
theorem ag_34 {M : Mem} {S : SV} {X : XT} {g : Gm} (F : FX X g cL_areGroups 10 yL_areGroups.cls 4 88) (r : RX X g (some .boolean) (fun v M2 => v = some (.int 1) ∧ M2 = WM M S)) (P : Nat → SV) (pn : Nat) (hCA : CA M (S, P, pn, fun _ => 0, 0)) (hAI : AI (S, P, pn, fun _ => 0, 0)) (hGP : GP S) (t : Nat) (hi : Inv S t) : ∀ n k : Nat, k + n = gn S → G X g 10 (WM M S) 34 [some (.ref (ad g 0)), some (.ref (ad g 224)), some (.ref (ad g 225)), some (.ref (ad g 226)), some (.ref (ad g 227)), some (.int 1), some (.int (nI k)), none, none, none] [] := by
  have hn := hi.cn_le
  have hm := hi.gn_le
  intro n
  induction n with
  | zero =>
    intro k hin
    obtain rfl : k = gn S := by omega
    refine g_iload (pc := 34) F dL_areGroups_34 rfl ?_
    refine g_aload_n (pc := 36) F dL_areGroups_36 rfl ?_
    refine g_iconst (pc := 37) (v := 1) F dL_areGroups_37 (by decide) ?_
    refine g_gld (pc := 38) (j := 1) F rfl (by decide) dL_areGroups_38 ?_
    rw [hm.2]
    refine g_icmp_ge (pc := 39) (tgt := 290) F dL_areGroups_39 (by decide) (fun c39 => ?_) (fun c39 => ?_)
    · refine g_iload (pc := 290) F dL_areGroups_290 rfl ?_
      refine g_zret (pc := 292) F (by decide) r dL_areGroups_292 ?_
      exact ⟨rfl, rfl⟩
    · exact absurd (Int32.le_refl _) c39
  | succ n ih =>
    intro k hin
    have hk : k < gn S := by omega
    refine g_iload (pc := 34) F dL_areGroups_34 rfl ?_
    refine g_aload_n (pc := 36) F dL_areGroups_36 rfl ?_
    refine g_iconst (pc := 37) (v := 1) F dL_areGroups_37 (by decide) ?_
    refine g_gld (pc := 38) (j := 1) F rfl (by decide) dL_areGroups_38 ?_
    rw [hm.2]
    refine g_icmp_ge (pc := 39) (tgt := 290) F dL_areGroups_39 (by decide) (fun c39 => ?_) (fun c39 => ?_)
    · exact absurd c39 (nI_ge (by omega) (by omega))
    · refine g_iload (pc := 42) F dL_areGroups_42 rfl ?_
      refine g_if_eq (pc := 44) (tgt := 290) F dL_areGroups_44 (by decide) (fun c44 => ?_) (fun c44 => ?_)
      · exact absurd c44 (by decide)
      · refine g_iconst (pc := 47) (v := 0) F dL_areGroups_47 (by decide) ?_
        refine g_istore (pc := 48) F dL_areGroups_48 (by decide) rfl ?_
        refine g_ldc (pc := 50) F wk_L_78 dL_areGroups_50 ?_
        refine g_istore (pc := 52) F dL_areGroups_52 (by decide) rfl ?_
        refine g_iconst (pc := 54) (v := 0) F dL_areGroups_54 (by decide) ?_
        refine g_istore (pc := 55) F dL_areGroups_55 (by decide) rfl ?_
        exact G.sub [some (.ref (ad g 0)), some (.ref (ad g 224)), some (.ref (ad g 225)), some (.ref (ad g 226)), some (.ref (ad g 227)), some (.int 1), some (.int (nI k)), some (.int (sumW S (gw S k 1) 9 0)), some (.int (leastW S (gw S k 1) 0)), some (.int (nI 0))] ⟨rfl, rfl, rfl, rfl, rfl, rfl, rfl, rfl, rfl, rfl, trivial⟩ (ag_57 F r P pn hCA hAI hGP t hi k hk (ih (k + 1) (by omega)) (cn S) 0 (by omega))
set_option maxHeartbeats 4000000 in
set_option maxRecDepth 100000 in
theorem c_L_areGroups (l : Launch) (g : Gm) (M : Mem) (S : SV) (hJ : J M S) : Cn l yL_areGroups cL_areGroups 10 (some .boolean) 4 88 g [.ref (ad g 0), .ref (ad g 224), .ref (ad g 225), .ref (ad g 226), .ref (ad g 227)] (WM M S) (fun v M2 => v = some (.int 1) ∧ M2 = WM M S) := by
  refine Cn.intro (lv0 := [some (.ref (ad g 0)), some (.ref (ad g 224)), some (.ref (ad g 225)), some (.ref (ad g 226)), some (.ref (ad g 227)), none, none, none, none, none]) 5 (by decide +kernel) (Nat.le_of_ble_eq_true rfl) rfl (fun X F r => ?_)
  obtain ⟨P, pn, hCA, hAI, hGP⟩ := hJ
  obtain ⟨t, ht, hi0⟩ := hAI.1
  have hi : Inv S t := hi0
  refine g_aload_n (pc := 0) F dL_areGroups_0 rfl ?_
  refine g_aload_n (pc := 1) F dL_areGroups_1 rfl ?_
  refine g_iconst (pc := 2) (v := 1) F dL_areGroups_2 (by decide) ?_
  refine g_gld (pc := 3) (j := 1) F rfl (by decide) dL_areGroups_3 ?_
  refine g_iconst (pc := 4) (v := 0) F dL_areGroups_4 (by decide) ?_
  refine g_callV (pc := 5) (rf2 := 3) (rl2 := 65) F cs_L_82 kd0 rfl (by decide) (by rfl) (by rfl) (Nat.le_of_ble_eq_true (by rfl)) (by decide) dL_areGroups_5 (w_groupOf _ g M S S P pn hCA hAI _ _) (fun v M2 hz => ?_)
  obtain ⟨rfl, rfl⟩ := hz
  rw [show oGroupOf S (S 1) 0 = -1000001 from if_neg (fun e => Int32.lt_irrefl e.1.2)]
  refine g_ldc (pc := 8) F wk_L_41 dL_areGroups_8 ?_
  refine g_icmp_ne (pc := 10) (tgt := 28) F dL_areGroups_10 (by decide) (fun c10 => ?_) (fun c10 => ?_)
  · exact absurd rfl c10
  · refine g_aload_n (pc := 13) F dL_areGroups_13 rfl ?_
    refine g_iconst (pc := 14) (v := -1) F dL_areGroups_14 (by decide) ?_
    refine g_iconst (pc := 15) (v := 0) F dL_areGroups_15 (by decide) ?_
    refine g_callV (pc := 16) (rf2 := 3) (rl2 := 65) F cs_L_82 kd0 rfl (by decide) (by rfl) (by rfl) (Nat.le_of_ble_eq_true (by rfl)) (by decide) dL_areGroups_16 (w_groupOf _ g M S S P pn hCA hAI _ _) (fun v M2 hz => ?_)
    obtain ⟨rfl, rfl⟩ := hz
    rw [show oGroupOf S (-1) 0 = -1000001 from if_neg (fun e => absurd e.1.1 (by decide))]
    refine g_ldc (pc := 19) F wk_L_41 dL_areGroups_19 ?_
    refine g_icmp_ne (pc := 21) (tgt := 28) F dL_areGroups_21 (by decide) (fun c21 => ?_) (fun c21 => ?_)
    · exact absurd rfl c21
    · refine g_iconst (pc := 24) (v := 1) F dL_areGroups_24 (by decide) ?_
      refine g_goto (pc := 25) (tgt := 29) F dL_areGroups_25 (by decide) ?_
      refine g_istore (pc := 29) F dL_areGroups_29 (by decide) rfl ?_
      refine g_iconst (pc := 31) (v := 0) F dL_areGroups_31 (by decide) ?_
      refine g_istore (pc := 32) F dL_areGroups_32 (by decide) rfl ?_
      exact G.sub [some (.ref (ad g 0)), some (.ref (ad g 224)), some (.ref (ad g 225)), some (.ref (ad g 226)), some (.ref (ad g 227)), some (.int 1), some (.int (nI 0)), none, none, none] ⟨rfl, rfl, rfl, rfl, rfl, rfl, rfl, trivial⟩ (ag_34 F r P pn hCA hAI hGP t hi (gn S) 0 (by omega))
