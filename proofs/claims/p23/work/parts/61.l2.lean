/-! THE LAW'S TICK -/
section GLAWS
variable {X : XT} {g : Gm} {cc : ByteArray} {nL : Nat} {own : String} {rf rl : Nat} {M : Mem} {S : SV} {w : Nat → Int32} {pc : Nat} {lv : List (Option Value)} {st : List Value}
theorem g_cldS (F : FX X g cc nL own rf rl) {i j : Nat} {x : Int32} (hx : x = nI (8 * i + j)) (hi : i < 6) (hj : j < 8) (hd : decode cc pc = .ok (.iaload, 1)) (k : G X g nL (WM M (setC S i w)) (pc + 1) lv (.int (w j) :: st)) : G X g nL (WM M (setC S i w)) pc lv (.int x :: .ref (ad g 225) :: st) :=
  g_cld F hx hi hj hd (by rw [cw_setC _ _ _ (by omega)]; exact k)
theorem g_vldS (F : FX X g cc nL own rf rl) {i j : Nat} {x : Int32} (hx : x = nI (7 * i + j)) (hi : i < 6) (hj : j < 7) (hd : decode cc pc = .ok (.iaload, 1)) (k : G X g nL (WM M (setC S i w)) (pc + 1) lv (.int (w (8 + j)) :: st)) : G X g nL (WM M (setC S i w)) pc lv (.int x :: .ref (ad g 226) :: st) :=
  g_vld F hx hi hj hd (by rw [cw_setC _ _ _ (by omega)]; exact k)
theorem g_qldS (F : FX X g cc nL own rf rl) {i j : Nat} {x : Int32} (hx : x = nI (4 * i + j)) (hi : i < 4) (hj : j < 4) (hd : decode cc pc = .ok (.iaload, 1)) (k : G X g nL (WM M (setGr S i w)) (pc + 1) lv (.int (w j) :: st)) : G X g nL (WM M (setGr S i w)) pc lv (.int x :: .ref (ad g 227) :: st) :=
  g_qld F hx hi hj hd (by rw [gw_setGr _ _ _ hj]; exact k)
theorem g_cstS (F : FX X g cc nL own rf rl) {i j : Nat} {x v : Int32} (hx : x = nI (8 * i + j)) (hi : i < 6) (hj : j < 8) (hd : decode cc pc = .ok (.iastore, 1)) (k : G X g nL (WM M (setC S i (upd w j v))) (pc + 1) lv st) : G X g nL (WM M (setC S i w)) pc lv (.int v :: .int x :: .ref (ad g 225) :: st) :=
  g_cst F hx hi hj hd (by rw [← setC_upd _ _ _ (by omega)]; exact k)
theorem g_vstS (F : FX X g cc nL own rf rl) {i j : Nat} {x v : Int32} (hx : x = nI (7 * i + j)) (hi : i < 6) (hj : j < 7) (hd : decode cc pc = .ok (.iastore, 1)) (k : G X g nL (WM M (setC S i (upd w (8 + j) v))) (pc + 1) lv st) : G X g nL (WM M (setC S i w)) pc lv (.int v :: .int x :: .ref (ad g 226) :: st) :=
  g_vst F hx hi hj hd (by rw [← setC_upd _ _ _ (by omega)]; exact k)
theorem g_qstS (F : FX X g cc nL own rf rl) {i j : Nat} {x v : Int32} (hx : x = nI (4 * i + j)) (hi : i < 4) (hj : j < 4) (hd : decode cc pc = .ok (.iastore, 1)) (k : G X g nL (WM M (setGr S i (upd w j v))) (pc + 1) lv st) : G X g nL (WM M (setGr S i w)) pc lv (.int v :: .int x :: .ref (ad g 227) :: st) :=
  g_qst F hx hi hj hd (by rw [← setGr_upd _ _ _ hj]; exact k)
theorem G.toC (i : Nat) (k : G X g nL (WM M (setC S i (cw S i))) pc lv st) : G X g nL (WM M S) pc lv st := G.mem (by rw [setC_cw]) k
theorem G.toG (i : Nat) (k : G X g nL (WM M (setGr S i (gw S i))) pc lv st) : G X g nL (WM M S) pc lv st := G.mem (by rw [setGr_gw]) k
theorem G.sv {S' : SV} (h : S = S') (k : G X g nL (WM M S') pc lv st) : G X g nL (WM M S) pc lv st := h ▸ k
end GLAWS
theorem setGr_congr (S : SV) (i : Nat) {w w' : Nat → Int32} (h : ∀ j, j < 4 → w j = w' j) : setGr S i w = setGr S i w' := by
  funext k
  unfold setGr
  split
  · exact h _ (by omega)
  · rfl
theorem bit_add : ∀ i, i < 6 → ∀ z, z < 64 → z < 2 ^ i → nI z + (1 <<< (nI i &&& 31)) = nI z ||| (1 <<< (nI i &&& 31)) := by decide +kernel
theorem tC_iff (a b : Int32) : a - b = 0 ↔ b = a := by
  rw [Int32.sub_eq_iff_eq_add, Int32.zero_add]
  exact ⟨Eq.symm, Eq.symm⟩
theorem gtick_law {r : Nat → Int32} {y z : Nat} (hy : y < 64) (hz : z < 64) (h1 : r 1 = nI y) {b : Int32} (hb : b = if pop6 (z &&& y) < 2 then 0 else 1) : ∀ j, j < 4 → upd (upd r 2 (r 2 + nI (pop6 (z &&& y)))) 3 (r 3 + b) j = gtick r (nI z) j := by
  intro j hj
  obtain ⟨q1, q2⟩ := iand_nI y hy z hz
  have e : jbc (r 1 &&& nI z) = nI (pop6 (z &&& y)) := by rw [h1, q1, jbc_nI _ q2, Nat.and_comm]
  have hp : pop6 (z &&& y) ≤ 6 := by rw [Nat.and_comm]; exact pop6_le _ q2
  unfold gtick
  rw [e, hb]
  match j, hj with
  | 0, _ => rfl
  | 1, _ => rfl
  | 2, _ => rfl
  | 3, _ =>
    show r 3 + (if pop6 (z &&& y) < 2 then 0 else 1) = (if nI (pop6 (z &&& y)) < 2 then r 3 else r 3 + 1)
    by_cases hc : pop6 (z &&& y) < 2
    · rw [if_pos hc, if_pos (show nI (pop6 (z &&& y)) < 2 from (nI_ltI (b := 2) (by omega) (by decide)).mpr hc), Int32.add_zero]
    · rw [if_neg hc, if_neg (show ¬ nI (pop6 (z &&& y)) < 2 from fun e => hc ((nI_ltI (b := 2) (by omega) (by decide)).mp e))]
set_option maxHeartbeats 4000000 in
set_option maxRecDepth 100000 in
theorem c_L_ticks (l : Launch) (g : Gm) (M : Mem) (S : SV) (t : Nat) (hi : Inv S t) : Cn l yL_ticks cL_ticks 7 (some .int) 2 46 g [.ref (ad g 224), .ref (ad g 225), .ref (ad g 226), .ref (ad g 227)] (WM M S) (fun v M2 => v = some (.int (jbc (endsZ S))) ∧ M2 = WM M (ends S)) := by
  refine Cn.intro (lv0 := [some (.ref (ad g 224)), some (.ref (ad g 225)), some (.ref (ad g 226)), some (.ref (ad g 227)), none, none, none]) 3 (by decide +kernel) (Nat.le_of_ble_eq_true rfl) rfl (fun X F r => ?_)
  have hn := hi.cn_le
  have hm := hi.gn_le
  obtain ⟨a1, -, a3, -, -, z, hz, a6⟩ := eC_inv hi (cn S) (Nat.le_refl _)
  have hz6 : z < 64 := Nat.lt_of_lt_of_le hz (Nat.le_trans (Nat.pow_le_pow_right (by decide) hn.1) (by decide))
  have hG : ∀ k, k < gn S → GI (gw (eC S (cn S)).1 k) t := fun k hk => GI_congr (hi.2.2.2.2.2.2 k hk) (fun j hj => a3 k j hj)
  refine g_iconst (pc := 0) (v := 0) F dL_ticks_0 (by decide) ?_
  refine g_istore (pc := 1) F dL_ticks_1 (by decide) rfl ?_
  refine g_iconst (pc := 3) (v := 0) F dL_ticks_3 (by decide) ?_
  refine g_istore (pc := 4) F dL_ticks_4 (by decide) rfl ?_
  have T2 : ∀ (n j : Nat), j + n = gn S → G X g 7 (WM M (eG (eC S (cn S)).1 (nI z) j)) 159 [some (.ref (ad g 224)), some (.ref (ad g 225)), some (.ref (ad g 226)), some (.ref (ad g 227)), some (.int (nI z)), some (.int (nI (4 * j))), none] [] := by
    intro n
    induction n with
    | zero =>
      intro j hj
      obtain rfl : j = gn S := by omega
      obtain ⟨b1, b2, b3, b4⟩ := eG_inv hz6 t (gn S) hm.1 hG (gn S) (by omega)
      have e1 : eG (eC S (cn S)).1 (nI z) (gn S) 1 = S 1 := (b1 1 (by decide)).trans (a1 1 (by decide))
      have e2 : eG (eC S (cn S)).1 (nI z) (gn S) 2 = S 2 := (b1 2 (by decide)).trans (a1 2 (by decide))
      refine g_iload (pc := 159) F dL_ticks_159 rfl ?_
      refine g_iconst (pc := 161) (v := 4) F dL_ticks_161 (by decide) ?_
      refine g_aload_n (pc := 162) F dL_ticks_162 rfl ?_
      refine g_iconst (pc := 163) (v := 1) F dL_ticks_163 (by decide) ?_
      refine g_gld (pc := 164) (j := 1) F rfl (by decide) dL_ticks_164 ?_
      refine g_imul (pc := 165) F dL_ticks_165 ?_
      refine g_stk (st' := [.int (nI (4 * gn S)), .int (nI (4 * gn S))]) (by rw [e1, hm.2, show (4 : Int32) = nI 4 from rfl, nI_mul]) ?_
      refine g_icmp_ge (pc := 166) (tgt := 220) F dL_ticks_166 (by decide) (fun c166 => ?_) (fun c166 => ?_)
      · refine g_aload_n (pc := 220) F dL_ticks_220 rfl ?_
        refine g_iconst (pc := 221) (v := 2) F dL_ticks_221 (by decide) ?_
        refine g_dup2 (pc := 222) F dL_ticks_222 rfl rfl ?_
        refine g_gld (pc := 223) (j := 2) F rfl (by decide) dL_ticks_223 ?_
        refine g_iconst (pc := 224) (v := 1) F dL_ticks_224 (by decide) ?_
        refine g_iadd (pc := 225) F dL_ticks_225 ?_
        refine g_gst (pc := 226) (j := 2) F rfl (by decide) dL_ticks_226 ?_
        refine g_iload (pc := 227) F dL_ticks_227 rfl ?_
        refine g_callS (pc := 229) (rf2 := 0) (rl2 := 0) F cs_L_23 (by rfl) (by rfl) (Nat.le_of_ble_eq_true (by rfl)) (by decide) dL_ticks_229 (c_L_bitsOf _ g _ z hz6) (fun v M2 hz => ?_)
        obtain ⟨rfl, rfl⟩ := hz
        refine g_iret (pc := 232) F r dL_ticks_232 ?_
        refine ⟨by rw [show endsZ S = nI z from a6, jbc_nI z hz6], ?_⟩
        rw [e2]
        unfold ends
        rw [a6]
      · exact absurd (Int32.le_refl _) c166
    | succ n ih =>
      intro j hj
      obtain ⟨b1, b2, b3, b4⟩ := eG_inv hz6 t (gn S) hm.1 hG j (by omega)
      have e1 : eG (eC S (cn S)).1 (nI z) j 1 = S 1 := (b1 1 (by decide)).trans (a1 1 (by decide))
      have e2 : eG (eC S (cn S)).1 (nI z) j 2 = S 2 := (b1 2 (by decide)).trans (a1 2 (by decide))
      obtain ⟨la, y, mt, y0, y5, y1', y2, y3, y4, y6⟩ := hG j (by omega)
      have hp6 := pop6_le _ (iand_nI z hz6 y y2).2
      have y1 : gw (eG (eC S (cn S)).1 (nI z) j) j 1 = nI y := (b3 j (Nat.le_refl j) 1 (by decide)).trans y1'
      refine g_iload (pc := 159) F dL_ticks_159 rfl ?_
      refine g_iconst (pc := 161) (v := 4) F dL_ticks_161 (by decide) ?_
      refine g_aload_n (pc := 162) F dL_ticks_162 rfl ?_
      refine g_iconst (pc := 163) (v := 1) F dL_ticks_163 (by decide) ?_
      refine g_gld (pc := 164) (j := 1) F rfl (by decide) dL_ticks_164 ?_
      refine g_imul (pc := 165) F dL_ticks_165 ?_
      refine g_stk (st' := [.int (nI (4 * gn S)), .int (nI (4 * j))]) (by rw [e1, hm.2, show (4 : Int32) = nI 4 from rfl, nI_mul]) ?_
      refine g_icmp_ge (pc := 166) (tgt := 220) F dL_ticks_166 (by decide) (fun c166 => ?_) (fun c166 => ?_)
      · exact absurd c166 (nI_ge (by omega) (by omega))
      · refine G.toG j ?_
        refine g_iload (pc := 169) F dL_ticks_169 rfl ?_
        refine g_aload_n (pc := 171) F dL_ticks_171 rfl ?_
        refine g_iload (pc := 172) F dL_ticks_172 rfl ?_
        refine g_iconst (pc := 174) (v := 1) F dL_ticks_174 (by decide) ?_
        refine g_iadd (pc := 175) F dL_ticks_175 ?_
        refine g_qldS (pc := 176) (i := j) (j := 1) F (nI_1 (4 * j)) (by omega) (by decide) dL_ticks_176 ?_
        refine g_iand (pc := 177) F dL_ticks_177 ?_
        refine g_stk (st' := [.int (nI (z &&& y))]) (by rw [y1, (iand_nI z hz6 y y2).1]) ?_
        refine g_callS (pc := 178) (rf2 := 0) (rl2 := 0) F cs_L_23 (by rfl) (by rfl) (Nat.le_of_ble_eq_true (by rfl)) (by decide) dL_ticks_178 (c_L_bitsOf _ g _ (z &&& y) (iand_nI z hz6 y y2).2) (fun v M2 hz => ?_)
        obtain ⟨rfl, rfl⟩ := hz
        refine g_istore (pc := 181) F dL_ticks_181 (by decide) rfl ?_
        refine g_aload_n (pc := 183) F dL_ticks_183 rfl ?_
        refine g_iload (pc := 184) F dL_ticks_184 rfl ?_
        refine g_iconst (pc := 186) (v := 2) F dL_ticks_186 (by decide) ?_
        refine g_iadd (pc := 187) F dL_ticks_187 ?_
        refine g_dup2 (pc := 188) F dL_ticks_188 rfl rfl ?_
        refine g_qldS (pc := 189) (i := j) (j := 2) F (nI_add (4 * j) 2) (by omega) (by decide) dL_ticks_189 ?_
        refine g_iload (pc := 190) F dL_ticks_190 rfl ?_
        refine g_iadd (pc := 192) F dL_ticks_192 ?_
        refine g_qstS (pc := 193) (i := j) (j := 2) F (nI_add (4 * j) 2) (by omega) (by decide) dL_ticks_193 ?_
        refine g_aload_n (pc := 194) F dL_ticks_194 rfl ?_
        refine g_iload (pc := 195) F dL_ticks_195 rfl ?_
        refine g_iconst (pc := 197) (v := 3) F dL_ticks_197 (by decide) ?_
        refine g_iadd (pc := 198) F dL_ticks_198 ?_
        refine g_dup2 (pc := 199) F dL_ticks_199 rfl rfl ?_
        refine g_qldS (pc := 200) (i := j) (j := 3) F (nI_add (4 * j) 3) (by omega) (by decide) dL_ticks_200 ?_
        refine g_iload (pc := 201) F dL_ticks_201 rfl ?_
        refine g_iconst (pc := 203) (v := 2) F dL_ticks_203 (by decide) ?_
        refine g_icmp_ge (pc := 204) (tgt := 211) F dL_ticks_204 (by decide) (fun c204 => ?_) (fun c204 => ?_)
        · have hc : ¬ pop6 (z &&& y) < 2 := fun e => nI_ge (b := 2) e (by decide) c204
          refine g_iconst (pc := 211) (v := 1) F dL_ticks_211 (by decide) ?_
          refine g_iadd (pc := 212) F dL_ticks_212 ?_
          refine g_qstS (pc := 213) (i := j) (j := 3) F (nI_add (4 * j) 3) (by omega) (by decide) dL_ticks_213 ?_
          refine G.sv (S' := eG (eC S (cn S)).1 (nI z) (j + 1)) (setGr_congr _ _ (gtick_law y2 hz6 y1 (b := 1) (by rw [if_neg hc]))) ?_
          refine g_iinc (pc := 214) (v := nI (4 * (j + 1))) F dL_ticks_214 rfl (nI_add (4 * j) 4) (by decide) rfl ?_
          refine g_goto (pc := 217) (tgt := 159) F dL_ticks_217 (by decide) ?_
          exact G.sub [some (.ref (ad g 224)), some (.ref (ad g 225)), some (.ref (ad g 226)), some (.ref (ad g 227)), some (.int (nI z)), some (.int (nI (4 * (j + 1)))), none] ⟨rfl, rfl, rfl, rfl, rfl, rfl, trivial⟩ (ih (j + 1) (by omega))
        · have hc : pop6 (z &&& y) < 2 := Classical.byContradiction fun e => c204 (nI_le (a := 2) (by omega) (by omega))
          refine g_iconst (pc := 207) (v := 0) F dL_ticks_207 (by decide) ?_
          refine g_goto (pc := 208) (tgt := 212) F dL_ticks_208 (by decide) ?_
          refine g_iadd (pc := 212) F dL_ticks_212 ?_
          refine g_qstS (pc := 213) (i := j) (j := 3) F (nI_add (4 * j) 3) (by omega) (by decide) dL_ticks_213 ?_
          refine G.sv (S' := eG (eC S (cn S)).1 (nI z) (j + 1)) (setGr_congr _ _ (gtick_law y2 hz6 y1 (b := 0) (by rw [if_pos hc]))) ?_
          refine g_iinc (pc := 214) (v := nI (4 * (j + 1))) F dL_ticks_214 rfl (nI_add (4 * j) 4) (by decide) rfl ?_
          refine g_goto (pc := 217) (tgt := 159) F dL_ticks_217 (by decide) ?_
          exact G.sub [some (.ref (ad g 224)), some (.ref (ad g 225)), some (.ref (ad g 226)), some (.ref (ad g 227)), some (.int (nI z)), some (.int (nI (4 * (j + 1)))), none] ⟨rfl, rfl, rfl, rfl, rfl, rfl, trivial⟩ (ih (j + 1) (by omega))
  have T1 : ∀ (n i : Nat), i + n = cn S → G X g 7 (WM M (eC S i).1) 6 [some (.ref (ad g 224)), some (.ref (ad g 225)), some (.ref (ad g 226)), some (.ref (ad g 227)), some (.int (eC S i).2), some (.int (nI i)), none] [] := by
    intro n
    induction n with
    | zero =>
      intro i hin
      obtain rfl : i = cn S := by omega
      obtain ⟨d1, ⟨x, hx, hx3⟩, d3, d4, d5, z1, z2, z6⟩ := eC_inv hi (cn S) (by omega)
      have d0 : (eC S (cn S)).1 0 = S 0 := d1 0 (by decide)
      refine g_iload (pc := 6) F dL_ticks_6 rfl ?_
      refine g_aload_n (pc := 8) F dL_ticks_8 rfl ?_
      refine g_iconst (pc := 9) (v := 0) F dL_ticks_9 (by decide) ?_
      refine g_gld (pc := 10) (j := 0) F rfl (by decide) dL_ticks_10 ?_
      refine g_icmp_ge (pc := 11) (tgt := 156) F dL_ticks_11 (by decide) (fun c11 => ?_) (fun c11 => ?_)
      · refine g_iconst (pc := 156) (v := 0) F dL_ticks_156 (by decide) ?_
        refine g_istore (pc := 157) F dL_ticks_157 (by decide) rfl ?_
        exact G.sub [some (.ref (ad g 224)), some (.ref (ad g 225)), some (.ref (ad g 226)), some (.ref (ad g 227)), some (.int (nI z)), some (.int (nI (4 * 0))), none] ⟨rfl, rfl, rfl, rfl, by rw [a6] <;> rfl, rfl, trivial⟩ (T2 (gn S) 0 (by omega))
      · exact absurd (show (eC S (cn S)).1 0 ≤ nI (cn S) by rw [d0, hn.2]; exact Int32.le_refl _) c11
    | succ n ih =>
      intro i hin
      obtain ⟨d1, ⟨x, hx, hx3⟩, d3, d4, d5, z1, z2, z6⟩ := eC_inv hi i (by omega)
      have d0 : (eC S i).1 0 = S 0 := d1 0 (by decide)
      obtain ⟨la, a, b, c, d, p, gp, ag, sm, sq, hL, h5, hp, h6, gp1, gp2, h7, ha, -⟩ := CI_congr (hi.2.2.2.2.2.1 i (by omega)) (fun j hj => d4 i (by omega) (Nat.le_refl i) j hj)
      have hL3 : LI (cw (setC (eC S i).1 i (tw (ow (cw (eC S i).1 i)))) i) la a b c d := LI_congr hL (fun j hj => (cw_setC _ _ _ (by omega)).trans (by
        unfold tw ow
        rw [upd_ne _ _ (by omega), upd_ne _ _ (by omega), upd_ne _ _ (by omega), upd_ne _ _ (by omega), upd_ne _ _ (by omega)]))
      have h53 : cw (setC (eC S i).1 i (tw (ow (cw (eC S i).1 i)))) i 5 = nI p := (cw_setC _ _ _ (by decide)).trans h5
      refine g_iload (pc := 6) F dL_ticks_6 rfl ?_
      refine g_aload_n (pc := 8) F dL_ticks_8 rfl ?_
      refine g_iconst (pc := 9) (v := 0) F dL_ticks_9 (by decide) ?_
      refine g_gld (pc := 10) (j := 0) F rfl (by decide) dL_ticks_10 ?_
      refine g_icmp_ge (pc := 11) (tgt := 156) F dL_ticks_11 (by decide) (fun c11 => ?_) (fun c11 => ?_)
      · exact absurd (show nI (cn S) ≤ nI i by rw [← hn.2, ← d0]; exact c11) (nI_ge (by omega) (by omega))
      · refine G.toC i ?_
        refine g_aload_n (pc := 14) F dL_ticks_14 rfl ?_
        refine g_bipush (pc := 15) (v := 8) F dL_ticks_15 (by decide) ?_
        refine g_iload (pc := 17) F dL_ticks_17 rfl ?_
        refine g_imul (pc := 19) F dL_ticks_19 ?_
        refine g_bipush (pc := 20) (v := 7) F dL_ticks_20 (by decide) ?_
        refine g_iadd (pc := 22) F dL_ticks_22 ?_
        refine g_dup2 (pc := 23) F dL_ticks_23 rfl rfl ?_
        refine g_cldS (pc := 24) (i := i) (j := 7) F (ix8 i 7) (by omega) (by decide) dL_ticks_24 ?_
        refine g_iconst (pc := 25) (v := 1) F dL_ticks_25 (by decide) ?_
        refine g_iadd (pc := 26) F dL_ticks_26 ?_
        refine g_cstS (pc := 27) (i := i) (j := 7) F (ix8 i 7) (by omega) (by decide) dL_ticks_27 ?_
        refine g_aload_n (pc := 28) F dL_ticks_28 rfl ?_
        refine g_bipush (pc := 29) (v := 8) F dL_ticks_29 (by decide) ?_
        refine g_iload (pc := 31) F dL_ticks_31 rfl ?_
        refine g_imul (pc := 33) F dL_ticks_33 ?_
        refine g_bipush (pc := 34) (v := 6) F dL_ticks_34 (by decide) ?_
        refine g_iadd (pc := 36) F dL_ticks_36 ?_
        refine g_cldS (pc := 37) (i := i) (j := 6) F (ix8 i 6) (by omega) (by decide) dL_ticks_37 ?_
        refine g_istore (pc := 38) F dL_ticks_38 (by decide) rfl ?_
        refine g_aload_n (pc := 40) F dL_ticks_40 rfl ?_
        refine g_bipush (pc := 41) (v := 8) F dL_ticks_41 (by decide) ?_
        refine g_iload (pc := 43) F dL_ticks_43 rfl ?_
        refine g_imul (pc := 45) F dL_ticks_45 ?_
        refine g_bipush (pc := 46) (v := 7) F dL_ticks_46 (by decide) ?_
        refine g_iadd (pc := 48) F dL_ticks_48 ?_
        refine g_cldS (pc := 49) (i := i) (j := 7) F (ix8 i 7) (by omega) (by decide) dL_ticks_49 ?_
        refine g_iload (pc := 50) F dL_ticks_50 rfl ?_
        refine g_icmp_ne (pc := 52) (tgt := 150) F dL_ticks_52 (by decide) (fun c52 => ?_) (fun c52 => ?_)
        · have hT : ¬ tC (eC S i).1 i := fun e => c52 ((tC_iff _ _).mp e)
          refine G.sv (S' := (eC S (i + 1)).1) ?_ ?_
          · show setC (eC S i).1 i (ow (cw (eC S i).1 i)) = sC (eC S i).1 i
            unfold sC
            rw [if_neg hT]
          refine g_iinc (pc := 150) (v := nI (i + 1)) F dL_ticks_150 rfl (nI_1 i) (by decide) rfl ?_
          refine g_goto (pc := 153) (tgt := 6) F dL_ticks_153 (by decide) ?_
          refine G.sub [some (.ref (ad g 224)), some (.ref (ad g 225)), some (.ref (ad g 226)), some (.ref (ad g 227)), some (.int (eC S (i + 1)).2), some (.int (nI (i + 1))), none] ⟨rfl, rfl, rfl, rfl, ?_, rfl, trivial⟩ (ih (i + 1) (by omega))
          show some (Value.int (eC S i).2) = some (Value.int (if tC (eC S i).1 i then (eC S i).2 ||| (1 <<< (nI i &&& 31)) else (eC S i).2))
          rw [if_neg hT]
        · have hT : tC (eC S i).1 i := (tC_iff _ _).mpr c52
          refine g_iload (pc := 55) F dL_ticks_55 rfl ?_
          refine g_iconst (pc := 57) (v := 1) F dL_ticks_57 (by decide) ?_
          refine g_iload (pc := 58) F dL_ticks_58 rfl ?_
          refine g_ishl (pc := 60) F dL_ticks_60 ?_
          refine g_iadd (pc := 61) F dL_ticks_61 ?_
          refine g_istore (pc := 62) F dL_ticks_62 (by decide) rfl ?_
          refine g_aload_n (pc := 64) F dL_ticks_64 rfl ?_
          refine g_bipush (pc := 65) (v := 7) F dL_ticks_65 (by decide) ?_
          refine g_iload (pc := 67) F dL_ticks_67 rfl ?_
          refine g_imul (pc := 69) F dL_ticks_69 ?_
          refine g_dup2 (pc := 70) F dL_ticks_70 rfl rfl ?_
          refine g_vldS (pc := 71) (i := i) (j := 0) F (ix70 i) (by omega) (by decide) dL_ticks_71 ?_
          refine g_iconst (pc := 72) (v := 1) F dL_ticks_72 (by decide) ?_
          refine g_iadd (pc := 73) F dL_ticks_73 ?_
          refine g_vstS (pc := 74) (i := i) (j := 0) F (ix70 i) (by omega) (by decide) dL_ticks_74 ?_
          refine g_aload_n (pc := 75) F dL_ticks_75 rfl ?_
          refine g_bipush (pc := 76) (v := 7) F dL_ticks_76 (by decide) ?_
          refine g_iload (pc := 78) F dL_ticks_78 rfl ?_
          refine g_imul (pc := 80) F dL_ticks_80 ?_
          refine g_iconst (pc := 81) (v := 1) F dL_ticks_81 (by decide) ?_
          refine g_iadd (pc := 82) F dL_ticks_82 ?_
          refine g_dup2 (pc := 83) F dL_ticks_83 rfl rfl ?_
          refine g_vldS (pc := 84) (i := i) (j := 1) F (ix7 i 1) (by omega) (by decide) dL_ticks_84 ?_
          refine g_iload (pc := 85) F dL_ticks_85 rfl ?_
          refine g_iadd (pc := 87) F dL_ticks_87 ?_
          refine g_vstS (pc := 88) (i := i) (j := 1) F (ix7 i 1) (by omega) (by decide) dL_ticks_88 ?_
          refine g_aload_n (pc := 89) F dL_ticks_89 rfl ?_
          refine g_bipush (pc := 90) (v := 7) F dL_ticks_90 (by decide) ?_
          refine g_iload (pc := 92) F dL_ticks_92 rfl ?_
          refine g_imul (pc := 94) F dL_ticks_94 ?_
          refine g_iconst (pc := 95) (v := 2) F dL_ticks_95 (by decide) ?_
          refine g_iadd (pc := 96) F dL_ticks_96 ?_
          refine g_dup2 (pc := 97) F dL_ticks_97 rfl rfl ?_
          refine g_vldS (pc := 98) (i := i) (j := 2) F (ix7 i 2) (by omega) (by decide) dL_ticks_98 ?_
          refine g_iload (pc := 99) F dL_ticks_99 rfl ?_
          refine g_iload (pc := 101) F dL_ticks_101 rfl ?_
          refine g_imul (pc := 103) F dL_ticks_103 ?_
          refine g_iadd (pc := 104) F dL_ticks_104 ?_
          refine g_vstS (pc := 105) (i := i) (j := 2) F (ix7 i 2) (by omega) (by decide) dL_ticks_105 ?_
          refine g_aload_n (pc := 106) F dL_ticks_106 rfl ?_
          refine g_bipush (pc := 107) (v := 7) F dL_ticks_107 (by decide) ?_
          refine g_iload (pc := 109) F dL_ticks_109 rfl ?_
          refine g_imul (pc := 111) F dL_ticks_111 ?_
          refine g_iconst (pc := 112) (v := 3) F dL_ticks_112 (by decide) ?_
          refine g_iadd (pc := 113) F dL_ticks_113 ?_
          refine g_iload (pc := 114) F dL_ticks_114 rfl ?_
          refine g_aload_n (pc := 116) F dL_ticks_116 rfl ?_
          refine g_bipush (pc := 117) (v := 7) F dL_ticks_117 (by decide) ?_
          refine g_iload (pc := 119) F dL_ticks_119 rfl ?_
          refine g_imul (pc := 121) F dL_ticks_121 ?_
          refine g_iconst (pc := 122) (v := 3) F dL_ticks_122 (by decide) ?_
          refine g_iadd (pc := 123) F dL_ticks_123 ?_
          refine g_vldS (pc := 124) (i := i) (j := 3) F (ix7 i 3) (by omega) (by decide) dL_ticks_124 ?_
          refine g_icmp_le (pc := 125) (tgt := 133) F dL_ticks_125 (by decide) (fun c125 => ?_) (fun c125 => ?_)
          · refine g_aload_n (pc := 133) F dL_ticks_133 rfl ?_
            refine g_bipush (pc := 134) (v := 7) F dL_ticks_134 (by decide) ?_
            refine g_iload (pc := 136) F dL_ticks_136 rfl ?_
            refine g_imul (pc := 138) F dL_ticks_138 ?_
            refine g_iconst (pc := 139) (v := 3) F dL_ticks_139 (by decide) ?_
            refine g_iadd (pc := 140) F dL_ticks_140 ?_
            refine g_vldS (pc := 141) (i := i) (j := 3) F (ix7 i 3) (by omega) (by decide) dL_ticks_141 ?_
            refine g_vstS (pc := 142) (i := i) (j := 3) F (ix7 i 3) (by omega) (by decide) dL_ticks_142 ?_
            refine G.sv (S' := setC (eC S i).1 i (tw (ow (cw (eC S i).1 i)))) (setC_congr _ _ (fun q hq => ?_)) ?_
            · show upd _ 11 (cw (eC S i).1 i 11) q = upd _ 11 (if cw (eC S i).1 i 6 < cw (eC S i).1 i 11 then cw (eC S i).1 i 11 else cw (eC S i).1 i 6) q
              have c5 : cw (eC S i).1 i 6 ≤ cw (eC S i).1 i 11 := c125
              by_cases hlt : cw (eC S i).1 i 6 < cw (eC S i).1 i 11
              · rw [if_pos hlt] <;> rfl
              · rw [if_neg hlt, ← Int32.le_antisymm c5 (Int32.not_lt.mp hlt)] <;> rfl
            refine g_aload_n (pc := 143) F dL_ticks_143 rfl ?_
            refine g_aload_n (pc := 144) F dL_ticks_144 rfl ?_
            refine g_iload (pc := 145) F dL_ticks_145 rfl ?_
            refine g_callS (pc := 147) (rf2 := 1) (rl2 := 23) F cs_L_19 (by rfl) (by rfl) (Nat.le_of_ble_eq_true (by rfl)) (by decide) dL_ticks_147 (c_L_begins _ g M (setC (eC S i).1 i (tw (ow (cw (eC S i).1 i)))) i (by omega) la a b c d hL3 x hx (by rw [setC_lo _ _ _ (by decide)]; exact hx3) p h53 hp) (fun v M2 hz => ?_)
            obtain ⟨rfl, rfl⟩ := hz
            refine G.sv (S' := (eC S (i + 1)).1) ?_ ?_
            · show beg (setC (eC S i).1 i (tw (ow (cw (eC S i).1 i)))) i (cw (setC (eC S i).1 i (tw (ow (cw (eC S i).1 i)))) i 5 + 1) = sC (eC S i).1 i
              unfold sC
              rw [if_pos hT, cw_setC _ _ _ (by decide)] <;> rfl
            refine g_iinc (pc := 150) (v := nI (i + 1)) F dL_ticks_150 rfl (nI_1 i) (by decide) rfl ?_
            refine g_goto (pc := 153) (tgt := 6) F dL_ticks_153 (by decide) ?_
            refine G.sub [some (.ref (ad g 224)), some (.ref (ad g 225)), some (.ref (ad g 226)), some (.ref (ad g 227)), some (.int (eC S (i + 1)).2), some (.int (nI (i + 1))), none] ⟨rfl, rfl, rfl, rfl, ?_, rfl, trivial⟩ (ih (i + 1) (by omega))
            show some (Value.int ((eC S i).2 + (1 <<< (nI i &&& 31)))) = some (Value.int (if tC (eC S i).1 i then (eC S i).2 ||| (1 <<< (nI i &&& 31)) else (eC S i).2))
            rw [if_pos hT, z6, bit_add i (by omega) z1 (Nat.lt_of_lt_of_le z2 (Nat.le_trans (Nat.pow_le_pow_right (by decide) (show i ≤ 6 by omega)) (by decide))) z2]
          · refine g_iload (pc := 128) F dL_ticks_128 rfl ?_
            refine g_goto (pc := 130) (tgt := 142) F dL_ticks_130 (by decide) ?_
            refine g_vstS (pc := 142) (i := i) (j := 3) F (ix7 i 3) (by omega) (by decide) dL_ticks_142 ?_
            refine G.sv (S' := setC (eC S i).1 i (tw (ow (cw (eC S i).1 i)))) (setC_congr _ _ (fun q hq => ?_)) ?_
            · show upd _ 11 (cw (eC S i).1 i 6) q = upd _ 11 (if cw (eC S i).1 i 6 < cw (eC S i).1 i 11 then cw (eC S i).1 i 11 else cw (eC S i).1 i 6) q
              have c5 : ¬ cw (eC S i).1 i 6 ≤ cw (eC S i).1 i 11 := c125
              rw [if_neg (fun e => c5 (Int32.le_of_lt e))] <;> rfl
            refine g_aload_n (pc := 143) F dL_ticks_143 rfl ?_
            refine g_aload_n (pc := 144) F dL_ticks_144 rfl ?_
            refine g_iload (pc := 145) F dL_ticks_145 rfl ?_
            refine g_callS (pc := 147) (rf2 := 1) (rl2 := 23) F cs_L_19 (by rfl) (by rfl) (Nat.le_of_ble_eq_true (by rfl)) (by decide) dL_ticks_147 (c_L_begins _ g M (setC (eC S i).1 i (tw (ow (cw (eC S i).1 i)))) i (by omega) la a b c d hL3 x hx (by rw [setC_lo _ _ _ (by decide)]; exact hx3) p h53 hp) (fun v M2 hz => ?_)
            obtain ⟨rfl, rfl⟩ := hz
            refine G.sv (S' := (eC S (i + 1)).1) ?_ ?_
            · show beg (setC (eC S i).1 i (tw (ow (cw (eC S i).1 i)))) i (cw (setC (eC S i).1 i (tw (ow (cw (eC S i).1 i)))) i 5 + 1) = sC (eC S i).1 i
              unfold sC
              rw [if_pos hT, cw_setC _ _ _ (by decide)] <;> rfl
            refine g_iinc (pc := 150) (v := nI (i + 1)) F dL_ticks_150 rfl (nI_1 i) (by decide) rfl ?_
            refine g_goto (pc := 153) (tgt := 6) F dL_ticks_153 (by decide) ?_
            refine G.sub [some (.ref (ad g 224)), some (.ref (ad g 225)), some (.ref (ad g 226)), some (.ref (ad g 227)), some (.int (eC S (i + 1)).2), some (.int (nI (i + 1))), none] ⟨rfl, rfl, rfl, rfl, ?_, rfl, trivial⟩ (ih (i + 1) (by omega))
            show some (Value.int ((eC S i).2 + (1 <<< (nI i &&& 31)))) = some (Value.int (if tC (eC S i).1 i then (eC S i).2 ||| (1 <<< (nI i &&& 31)) else (eC S i).2))
            rw [if_pos hT, z6, bit_add i (by omega) z1 (Nat.lt_of_lt_of_le z2 (Nat.le_trans (Nat.pow_le_pow_right (by decide) (show i ≤ 6 by omega)) (by decide))) z2]
  exact T1 (cn S) 0 (by omega)
