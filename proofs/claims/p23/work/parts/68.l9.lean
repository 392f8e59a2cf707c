/-! THE CLAIM OUT OF ONE WALK OF THE LAW'S BODY. Your part is whole_start (and what it stands on); all else here is the same for every law, but numbers. -/
def R_law : String := "RenewalClocksLaw"
def lw_P (b : Addr) (xs : List Int32) (args : Array Value) (s : State) : Prop := args = #[.ref b] ∧ s.IntsAt b xs ∧ xs.length ≤ 260 ∧ (Jvm.Cond.and given_1 narrow_1).before args s = true
def lw_Q (_ : Array Value) (s : State) (o : Outcome) (t : State) : Prop := o = .returned (some (.int 1)) ∧ Framed s o t [] 687417 7039997
def lw_Z (below : List Frame) (a : Array Value) (s : State) : State → Prop := fun t => ∃ o, t.status = .running ∧ Ended t below o ∧ lw_Q a s o t
/-- the law's own end, with 1 on the stack, nothing written that was there before, its room as the claim has it -/
theorem lw_ret {p : Program} {l : Launch} {e : Env} {s : State} {m : MethodId} {below : List Frame} {meth : Method} {c : Code} {b : Nat} (hx : p.tables.exec = Jvm.exec) (hb : c.code = code) (hr : meth.sig.returnType = ret) (hlocks : meth.locks = false) {pc : Nat} {H : Heap} {ls : Array Slot} (hdg : decode code pc = .ok (.ireturn, 1)) : W p l e room_1 s m #[Value.ref b] below meth c H [] 687417 7039997 (lw_Z below #[Value.ref b] s) (F0 m pc ls [.int 1]) := by
  intro T hT X
  obtain ⟨fs, hret, hrun, hended, hW, hframe⟩ := X.leave (v := some (.int 1)) (hlocks := hlocks) (fun h => by rw [hr] at h; cases h)
  have hmeth' : T.vm.method? m = some meth := X.method'
  refine ⟨T.setFrames fs, ?_, .returned (some (.int 1)), hrun, hended, rfl, ⟨_, rfl⟩, hW, hframe⟩
  jvm_step X.here [X.here.top, hx, hb, hdg, hmeth', hr, ret, narrow_b1]
  (try refine ⟨rfl, ?_⟩); (try refine ⟨rfl, ?_⟩)
  first | (intro acts; rw [hret _ acts rfl rfl rfl]) | rw [hret _ _ rfl rfl rfl]
  exact Steps.refl _
/-- what holds at the law's entry: the machine, the code, the tables' words (any of lw_tbl by 'hts w (by decide +kernel)'), the script of L ints xs at the cell b, what the Statement gives of the start (any of its parts by flat_of_before) -/
def lw_At (p : Program) (s : State) (m : MethodId) (meth : Method) (c : Code) (b L : Nat) (xs : Nat → Int32) : Prop :=
  p.tables.exec = Jvm.exec ∧ c.code = code ∧ meth.sig.returnType = ret ∧ c.maxLocals = 9 ∧ s.vm.findClass R_law = some m.cls ∧ (∀ w ∈ lw_tbl, w.before #[Value.ref b] s = true) ∧ va_X b L xs s s.heap ∧ b < s.heap.size ∧ meth.locks = false ∧ (Jvm.Cond.and given_1 narrow_1).before #[Value.ref b] s = true
/-! THE LAW'S LOOPS -/
def SX (X : XT) (g : Gm) (b L : Nat) (xs : Nat → Int32) : Prop := match X with
  | (_, _, _, _, s, _, _, _, _, _, _, _, _) => va_X b L xs s s.heap ∧ b < s.heap.size ∧ ¬ gA g b
def EL (X : XT) (b : Nat) : Prop := match X with
  | (p, l, e, R, s, m, args, below, meth, c, cells, slots, Q) => R = room_1 ∧ args = #[Value.ref b] ∧ Q = lw_Z below #[Value.ref b] s ∧ c.code = code ∧ meth.sig.returnType = ret ∧ meth.locks = false ∧ cells ≤ 687417 ∧ slots ≤ 7039997 ∧ p.tables.exec = Jvm.exec
def EG (X : XT) (g : Gm) : Prop := match X with
  | (_, _, _, _, s, _, _, _, _, _, _, _, _) => gB g = s.heap.size
section GLAW
variable {X : XT} {g : Gm} {cc : ByteArray} {nL : Nat} {own : String} {rf rl : Nat} {M : Mem} {pc : Nat} {lv : List (Option Value)} {st : List Value}
theorem g_sld (F : FX X g cc nL own rf rl) {b L q : Nat} {xs : Nat → Int32} {i : Int32} (hX : SX X g b L xs) (hi : i = nI q) (hq : q < L) (hL : L < 2147483648) (hd : decode cc pc = .ok (.iaload, 1)) (kk : G X g nL M (pc + 1) lv (.int (xs q) :: st)) : G X g nL M pc lv (.int i :: .ref b :: st) := by
  obtain ⟨p, l, e, R, s, m, args, below, meth, c, cells, slots, Q⟩ := X
  obtain ⟨⟨hx, hb, hml, hown, hts⟩, hW, hrf, hrl, hcl, hsl, hgb⟩ := F
  intro H locs ls hP hS hL
  subst hi
  refine va_sld hx hb hX.1 hX.2.1 hX.2.2 hS (vp_in_nI hq (by omega)) hd ?_
  rw [nI_clamp (by omega)]
  exact kk H locs ls hP hS hL
theorem g_slen (F : FX X g cc nL own rf rl) {b L : Nat} {xs : Nat → Int32} (hX : SX X g b L xs) (hd : decode cc pc = .ok (.arraylength, 1)) (kk : G X g nL M (pc + 1) lv (.int (nI L) :: st)) : G X g nL M pc lv (.ref b :: st) := by
  obtain ⟨p, l, e, R, s, m, args, below, meth, c, cells, slots, Q⟩ := X
  obtain ⟨⟨hx, hb, hml, hown, hts⟩, hW, hrf, hrl, hcl, hsl, hgb⟩ := F
  intro H locs ls hP hS hL
  exact va_slen hx hb hX.1 hX.2.1 hX.2.2 hS hd (kk H locs ls hP hS hL)
theorem g_lawend (F : FX X g code nL own rf rl) {b : Nat} (h : EL X b) (hg : EG X g) (hd : decode code pc = .ok (.ireturn, 1)) : G X g nL M pc lv [.int 1] := by
  obtain ⟨p, l, e, R, s, m, args, below, meth, c, cells, slots, Q⟩ := X
  obtain ⟨⟨hx, hb, hml, hown, hts⟩, hW, hrf, hrl, hcl, hsl, hgb⟩ := F
  obtain ⟨h1, h2, h3, h4, h5, h6, h7, h8, -⟩ := h
  subst h1
  subst h2
  subst h3
  intro H locs ls hP hS hL
  refine va_forget (fun q hq => ?_) ?_
  · have h := hS.2.2 q hq
    have hg' : gB g = s.heap.size := hg
    have h' : gB g ≤ q.base := h
    omega
  refine W.widen (k := 687417) (n := 7039997) h7 h8 ?_
  exact lw_ret hx hb h5 h6 hd
end GLAW
/-! a contract of a method that reads the script -/
abbrev preS (g : Gm) (b L : Nat) (xs : Nat → Int32) (M : Mem) : State → Prop := fun U => (wOK g U ∧ hM g M U.heap ∧ gB g ≤ U.heap.size) ∧ va_X b L xs U U.heap ∧ b < U.heap.size ∧ ¬ gA g b
def CnS (l : Launch) (y : MethodName) (cy : ByteArray) (nL : Nat) (ret : Option FieldType) (rf rl : Nat) (g : Gm) (b L : Nat) (xs : Nat → Int32) (av : List Value) (M : Mem) (post : Option Value → Mem → Prop) : Prop :=
  Met l y (wsM y cy nL ret) ({ frames := rf, cells := 0, slots := 0, locals := rl }) (va_Pc av (preS g b L xs M)) (fun _ st o t => qM g post st o t) 0 0 (gA g)
theorem cnS_blind {g : Gm} {b L : Nat} {xs : Nat → Int32} {av : List Value} {M : Mem} : FrameBlind (va_Pc av (preS g b L xs M)) := by
  intro a U fr mk q
  obtain ⟨q0, q1, q2, q3⟩ := q
  obtain ⟨r0, r1⟩ := cn_blind (g := g) (av := av) (M := M) a U fr mk ⟨q0, q1⟩
  exact ⟨q0, r1, va_X.moved (u := U) (U := U.calling fr mk a) (Vm.Alike.refl U.vm) q2, q3⟩
theorem CnS.intro {l : Launch} {y : MethodName} {cy : ByteArray} {nL : Nat} {ret : Option FieldType} {rf rl : Nat} {g : Gm} {b L : Nat} {xs : Nat → Int32} {av : List Value} {M : Mem} {post : Option Value → Mem → Prop} {lv0 : List (Option Value)} (kp : Nat) (hy : plainName y.cls = true) (hlen : (lg_sl av).length ≤ nL) (hlv : lvE av ++ List.replicate kp none = lv0)
    (body : ∀ X : XT, FX X g cy nL y.cls rf rl → RX X g ret post → SX X g b L xs → G X g nL M 0 lv0 []) : CnS l y cy nL ret rf rl g b L xs av M post := by
  refine Met.ofW (ws := wsM y cy nL ret) (ws' := lw_ws) (cc := cy) (maxL := nL) (ret := ret) hy rfl ?_
  intro p e s m args below meth c s₁ B hml hv
  obtain ⟨rfl, ⟨hW, hP, hgb⟩, hSX⟩ := hv
  have hts := atoms_spec (ws := wsM y cy nL ret) B.pre
  have hl := lv_entry av (n := nL) hlen
  rw [lg_entry_eq]
  refine body (p, l, e, _, s, m, av.toArray, below, meth, c, 0, 0, _) ⟨⟨B.exec, B.bytes, hml, findClass_of_methodNamed B.named, fun w hw => hts w (List.mem_cons_of_mem _ hw)⟩, hW, rfl, rfl, Nat.zero_le _, Nat.zero_le _, hgb⟩ ⟨B.returns, B.notSynchronized, rfl, rfl, rfl⟩ hSX s.heap [] _ hP va_S.rf (lhas.of hl (fun i v hi => ?_))
  rw [← hlv] at hi
  have := lvE_sound kp av 0 i v hi
  rwa [Nat.zero_add] at this
theorem g_callSS {X : XT} {g : Gm} {cc : ByteArray} {nL : Nat} {own : String} {rf rl : Nat} {M : Mem} {pc : Nat} {lv : List (Option Value)} {st : List Value} {y : MethodName} {cy : ByteArray} {nLy rf2 rl2 n idx : Nat} {ret : Option FieldType} {post : Option Value → Mem → Prop} {As rest : List Value} {b L : Nat} {xs : Nat → Int32} (F : FX X g cc nL own rf rl) (hX : SX X g b L xs) (w : CS own idx y cy nLy ret n) (hn : As.length = n) (hst : st = As.reverse ++ rest) (hcat : (rest.map fun v => v.category).sum ≤ 8) (hR : rf2 + 1 ≤ rf ∧ 8 + (nLy + 11) + rl2 ≤ rl) (hd : decode cc pc = .ok (.invokestatic idx, 3))
    (hM2 : CnS X.2.1 y cy nLy ret rf2 rl2 g b L xs As M post) (kk : ∀ (v : Option Value) (M' : Mem), post v M' → G X g nL M' (pc + 3) lv (v.toList ++ rest)) : G X g nL M pc lv st := by
  obtain ⟨p, l, e, R, s, m, args, below, meth, c, cells, slots, Q⟩ := X
  obtain ⟨⟨hx, hb, hml, hown, hts⟩, hW, hrf, hrl, hcl, hsl, hgb⟩ := F
  intro H locs ls hP hS hL
  obtain ⟨w1, w2, w4, w5, w7⟩ := w
  have hXH : va_X b L xs s H := va_X.kept hX.1 (hS.2.1 b hX.2.1 hX.2.2)
  refine cn_call (va_runS (ws := wsM y cy nLy ret) (rm := { frames := rf2, cells := 0, slots := 0, locals := rl2 }) (As := As) (rest := rest) ⟨hx, hb, hml, hown, hts⟩ hM2 (va_cwS n hts (ws_good (fun x hx => ?_)) rfl rfl rfl w7 ?_) ⟨cnS_blind, fun U hU hWU => ⟨rfl, ⟨hW.warm hWU, by rw [hU]; exact hP, by rw [hU]; exact Nat.le_trans hgb hS.1⟩, va_X.moved hWU.alike (by rw [hU]; exact hXH), by rw [hU]; exact Nat.lt_of_lt_of_le hX.2.1 hS.1, hX.2.2⟩⟩ rfl hn hL.1 hst (lv_room hcat) hd ⟨hcl, hsl⟩) hS (fun v M' hp H1 locs1 hP1 hS1 => kk v M' hp H1 locs1 ls hP1 hS1 hL)
  · rcases List.mem_append.mp hx with h | h
    · simp only [List.mem_cons, List.not_mem_nil, or_false] at h
      rcases h with rfl | rfl | rfl
      · exact w1
      · exact w2
      · exact w4
    · exact wsM_in w5 x h
  · rw [hrf, hrl]; exact hR
set_option maxHeartbeats 4000000 in
set_option maxRecDepth 100000 in
theorem c_L_cell (l : Launch) (g : Gm) (M : Mem) (b L : Nat) (xs : Nat → Int32) (hL : L ≤ 260) (k : Nat) (hk : k < 1000) : CnS l yL_cell cL_cell 2 (some .int) 0 0 g b L xs [.ref b, .int (nI k)] M (fun v M2 => (∃ y : Int32, v = some (.int y)) ∧ M2 = M) := by
  refine CnS.intro (lv0 := [some (.ref b), some (.int (nI k))]) 0 (by decide +kernel) (Nat.le_of_ble_eq_true rfl) rfl (fun X F r hX => ?_)
  refine g_iload_n (pc := 0) F dL_cell_0 rfl ?_
  refine g_aload_n (pc := 1) F dL_cell_1 rfl ?_
  refine g_slen (pc := 2) F hX dL_cell_2 ?_
  refine g_icmp_ge (pc := 3) (tgt := 12) F dL_cell_3 (by decide) (fun c3 => ?_) (fun c3 => ?_)
  · refine g_ldc (pc := 12) F wk_L_7 dL_cell_12 ?_
    refine g_iload_n (pc := 14) F dL_cell_14 rfl ?_
    refine g_iconst (pc := 15) (v := 3) F dL_cell_15 (by decide) ?_
    refine g_iadd (pc := 16) F dL_cell_16 ?_
    refine g_imul (pc := 17) F dL_cell_17 ?_
    refine g_iret (pc := 18) F r dL_cell_18 ?_
    exact ⟨⟨_, rfl⟩, rfl⟩
  · refine g_aload_n (pc := 6) F dL_cell_6 rfl ?_
    refine g_iload_n (pc := 7) F dL_cell_7 rfl ?_
    refine g_sld (pc := 8) F hX rfl (Classical.byContradiction fun e => c3 (nI_le (by omega) (by omega))) (by omega) dL_cell_8 ?_
    refine g_goto (pc := 9) (tgt := 18) F dL_cell_9 (by decide) ?_
    refine g_iret (pc := 18) F r dL_cell_18 ?_
    exact ⟨⟨_, rfl⟩, rfl⟩

set_option maxHeartbeats 4000000 in
set_option maxRecDepth 100000 in
theorem law_167 {X : XT} {g : Gm} {b L : Nat} {xs : Nat → Int32} (F : FX X g code 9 RL 9 364) (hX : SX X g b L xs) (hE : EL X b) (hg : EG X g) (hL : L ≤ 260) (T : Nat) (hT : T ≤ 100) : ∀ (n k : Nat) (M : Mem) (S : SV), k + n = T → J M S → G X g 9 (WM M S) 167 [some (.ref b), some (.ref (ad g 0)), some (.ref (ad g 224)), some (.ref (ad g 225)), some (.ref (ad g 226)), some (.ref (ad g 227)), some (.int 1), some (.int (nI T)), some (.int (nI k))] [] := by
  intro n
  induction n with
  | zero =>
    intro k M S hin hJ
    obtain rfl : k = T := by omega
    refine g_iload (pc := 167) F dL_law_167 rfl ?_
    refine g_iload (pc := 169) F dL_law_169 rfl ?_
    refine g_icmp_ge (pc := 171) (tgt := 234) F dL_law_171 (by decide) (fun c171 => ?_) (fun c171 => ?_)
    · obtain ⟨P, pn, hCA, hAI, -⟩ := hJ
      refine g_iload (pc := 234) F dL_law_234 rfl ?_
      refine g_if_eq (pc := 236) (tgt := 264) F dL_law_236 (by decide) (fun c236 => ?_) (fun c236 => ?_)
      · exact absurd c236 (by decide)
      · refine g_aload_n (pc := 239) F dL_law_239 rfl ?_
        refine g_bipush (pc := 240) (v := 11) F dL_law_240 (by decide) ?_
        refine g_callV (pc := 242) (rf2 := 3) (rl2 := 65) F cs_L_79 kd0 rfl (by decide) (by rfl) (by rfl) (Nat.le_of_ble_eq_true (by rfl)) (by decide) dL_law_242 (w_count _ g M S S P pn hCA hAI _) (fun v M2 hz => ?_)
        obtain ⟨rfl, rfl⟩ := hz
        rw [show oCount (S, P, pn, fun _ => 0, 0) 11 = -1000001 from if_neg (fun e => absurd e.2 (by decide))]
        refine g_ldc (pc := 245) F wk_L_41 dL_law_245 ?_
        refine g_icmp_ne (pc := 247) (tgt := 264) F dL_law_247 (by decide) (fun c247 => ?_) (fun c247 => ?_)
        · exact absurd rfl c247
        · refine g_aload_n (pc := 250) F dL_law_250 rfl ?_
          refine g_iconst (pc := 251) (v := -1) F dL_law_251 (by decide) ?_
          refine g_callV (pc := 252) (rf2 := 3) (rl2 := 65) F cs_L_79 kd0 rfl (by decide) (by rfl) (by rfl) (Nat.le_of_ble_eq_true (by rfl)) (by decide) dL_law_252 (w_count _ g M S S P pn hCA hAI _) (fun v M2 hz => ?_)
          obtain ⟨rfl, rfl⟩ := hz
          rw [show oCount (S, P, pn, fun _ => 0, 0) (-1) = -1000001 from if_neg (fun e => absurd e.1 (by decide))]
          refine g_ldc (pc := 255) F wk_L_41 dL_law_255 ?_
          refine g_icmp_ne (pc := 257) (tgt := 264) F dL_law_257 (by decide) (fun c257 => ?_) (fun c257 => ?_)
          · exact absurd rfl c257
          · refine g_iconst (pc := 260) (v := 1) F dL_law_260 (by decide) ?_
            refine g_goto (pc := 261) (tgt := 265) F dL_law_261 (by decide) ?_
            exact g_lawend (pc := 265) F hE hg dL_law_265
    · exact absurd (Int32.le_refl _) c171
  | succ n ih =>
    intro k M S hin hJ
    refine g_iload (pc := 167) F dL_law_167 rfl ?_
    refine g_iload (pc := 169) F dL_law_169 rfl ?_
    refine g_icmp_ge (pc := 171) (tgt := 234) F dL_law_171 (by decide) (fun c171 => ?_) (fun c171 => ?_)
    · exact absurd c171 (nI_ge (by omega) (by omega))
    · refine g_iload (pc := 174) F dL_law_174 rfl ?_
      refine g_if_eq (pc := 176) (tgt := 234) F dL_law_176 (by decide) (fun c176 => ?_) (fun c176 => ?_)
      · exact absurd c176 (by decide)
      · refine g_aload_n (pc := 179) F dL_law_179 rfl ?_
        refine g_aload_n (pc := 180) F dL_law_180 rfl ?_
        refine g_aload_n (pc := 181) F dL_law_181 rfl ?_
        refine g_aload (pc := 182) F dL_law_182 rfl ?_
        refine g_aload (pc := 184) F dL_law_184 rfl ?_
        refine g_aload_n (pc := 186) F dL_law_186 rfl ?_
        refine g_bipush (pc := 187) (v := 7) F dL_law_187 (by decide) ?_
        refine g_iload (pc := 189) F dL_law_189 rfl ?_
        refine g_iaddN (pc := 191) (a := 7) (b := k) F rfl rfl dL_law_191 ?_
        refine g_callSS (pc := 192) (rf2 := 0) (rl2 := 0) F hX cs_L_97 (by rfl) (by rfl) (Nat.le_of_ble_eq_true (by rfl)) (by decide) dL_law_192 (c_L_cell _ g _ b L xs hL (7 + k) (by omega)) (fun v Mc hz => ?_)
        obtain ⟨⟨y, rfl⟩, rfl⟩ := hz
        refine g_sipush (pc := 195) (v := 7919) F dL_law_195 (by decide) ?_
        refine g_iload (pc := 198) F dL_law_198 rfl ?_
        refine g_imul (pc := 200) F dL_law_200 ?_
        refine g_ixor (pc := 201) F dL_law_201 ?_
        refine g_callS (pc := 202) (rf2 := 6) (rl2 := 161) F cs_L_100 (by rfl) (by rfl) (Nat.le_of_ble_eq_true (by rfl)) (by decide) dL_law_202 (c_L_acts _ g M S hJ _) (fun v M2 hz => ?_)
        obtain ⟨rfl, M1, S1, rfl, hJ1⟩ := hz
        refine g_if_eq (pc := 205) (tgt := 225) F dL_law_205 (by decide) (fun c205 => ?_) (fun c205 => ?_)
        · exact absurd c205 (by decide)
        · refine g_aload_n (pc := 208) F dL_law_208 rfl ?_
          refine g_aload_n (pc := 209) F dL_law_209 rfl ?_
          refine g_aload_n (pc := 210) F dL_law_210 rfl ?_
          refine g_aload (pc := 211) F dL_law_211 rfl ?_
          refine g_aload (pc := 213) F dL_law_213 rfl ?_
          refine g_callS (pc := 215) (rf2 := 5) (rl2 := 119) F cs_L_104 (by rfl) (by rfl) (Nat.le_of_ble_eq_true (by rfl)) (by decide) dL_law_215 (c_L_isSo _ g M1 S1 hJ1) (fun v9 M9 hz9 => ?_)
          obtain ⟨rfl, rfl⟩ := hz9
          refine g_if_eq (pc := 218) (tgt := 225) F dL_law_218 (by decide) (fun c218 => ?_) (fun c218 => ?_)
          · exact absurd c218 (by decide)
          · refine g_iconst (pc := 221) (v := 1) F dL_law_221 (by decide) ?_
            refine g_goto (pc := 222) (tgt := 226) F dL_law_222 (by decide) ?_
            refine g_istore (pc := 226) F dL_law_226 (by decide) rfl ?_
            refine g_iinc (pc := 228) (v := nI (k + 1)) F dL_law_228 rfl (nI_1 k) (by decide) rfl ?_
            refine g_goto (pc := 231) (tgt := 167) F dL_law_231 (by decide) ?_
            exact G.sub [some (.ref b), some (.ref (ad g 0)), some (.ref (ad g 224)), some (.ref (ad g 225)), some (.ref (ad g 226)), some (.ref (ad g 227)), some (.int 1), some (.int (nI T)), some (.int (nI (k + 1)))] ⟨rfl, rfl, rfl, rfl, rfl, rfl, rfl, rfl, rfl, trivial⟩ (ih (k + 1) M1 S1 (by omega) hJ1)
set_option maxHeartbeats 4000000 in
set_option maxRecDepth 100000 in
theorem law_51 {X : XT} {g : Gm} {b L : Nat} {xs : Nat → Int32} (F : FX X g code 9 RL 9 364) (hX : SX X g b L xs) (hE : EL X b) (hg : EG X g) (hL : L ≤ 260) : ∀ (n k : Nat) (M : Mem) (S : SV), k + n = 6 → J M S → G X g 9 (WM M S) 51 [some (.ref b), some (.ref (ad g 0)), some (.ref (ad g 224)), some (.ref (ad g 225)), some (.ref (ad g 226)), some (.ref (ad g 227)), some (.int 1), some (.int (nI k)), none] [] := by
  intro n
  induction n with
  | zero =>
    intro k M S hin hJ
    obtain rfl : k = 6 := by omega
    refine g_iload (pc := 51) F dL_law_51 rfl ?_
    refine g_bipush (pc := 53) (v := 6) F dL_law_53 (by decide) ?_
    refine g_icmp_ge (pc := 55) (tgt := 124) F dL_law_55 (by decide) (fun c55 => ?_) (fun c55 => ?_)
    · refine g_iload (pc := 124) F dL_law_124 rfl ?_
      refine g_if_eq (pc := 126) (tgt := 146) F dL_law_126 (by decide) (fun c126 => ?_) (fun c126 => ?_)
      · exact absurd c126 (by decide)
      · refine g_aload_n (pc := 129) F dL_law_129 rfl ?_
        refine g_aload_n (pc := 130) F dL_law_130 rfl ?_
        refine g_aload_n (pc := 131) F dL_law_131 rfl ?_
        refine g_aload (pc := 132) F dL_law_132 rfl ?_
        refine g_aload (pc := 134) F dL_law_134 rfl ?_
        refine g_callS (pc := 136) (rf2 := 5) (rl2 := 119) F cs_L_104 (by rfl) (by rfl) (Nat.le_of_ble_eq_true (by rfl)) (by decide) dL_law_136 (c_L_isSo _ g M S hJ) (fun v9 M9 hz9 => ?_)
        obtain ⟨rfl, rfl⟩ := hz9
        refine g_if_eq (pc := 139) (tgt := 146) F dL_law_139 (by decide) (fun c139 => ?_) (fun c139 => ?_)
        · exact absurd c139 (by decide)
        · refine g_iconst (pc := 142) (v := 1) F dL_law_142 (by decide) ?_
          refine g_goto (pc := 143) (tgt := 147) F dL_law_143 (by decide) ?_
          refine g_istore (pc := 147) F dL_law_147 (by decide) rfl ?_
          refine g_bipush (pc := 149) (v := 16) F dL_law_149 (by decide) ?_
          refine g_aload_n (pc := 151) F dL_law_151 rfl ?_
          refine g_iconst (pc := 152) (v := 0) F dL_law_152 (by decide) ?_
          refine g_stk (st' := [.int (nI 0), .ref b, .int 16]) rfl ?_
          refine g_callSS (pc := 153) (rf2 := 0) (rl2 := 0) F hX cs_L_97 (by rfl) (by rfl) (Nat.le_of_ble_eq_true (by rfl)) (by decide) dL_law_153 (c_L_cell _ g _ b L xs hL 0 (by omega)) (fun v Mc hz => ?_)
          obtain ⟨⟨y, rfl⟩, rfl⟩ := hz
          refine g_bipush (pc := 156) (v := 60) F dL_law_156 (by decide) ?_
          refine g_callS (pc := 158) (rf2 := 0) (rl2 := 0) F cs_L_47 (by rfl) (by rfl) (Nat.le_of_ble_eq_true (by rfl)) (by decide) dL_law_158 (c_L_low _ g (WM M S) _ 60 (by decide) (by decide)) (fun v8 M8 hz8 => ?_)
          obtain ⟨⟨q, hq, rfl⟩, rfl⟩ := hz8
          refine g_iaddN (pc := 161) (a := 16) (b := q) F rfl rfl dL_law_161 ?_
          refine g_istore (pc := 162) F dL_law_162 (by decide) rfl ?_
          refine g_iconst (pc := 164) (v := 0) F dL_law_164 (by decide) ?_
          refine g_istore (pc := 165) F dL_law_165 (by decide) rfl ?_
          exact G.sub [some (.ref b), some (.ref (ad g 0)), some (.ref (ad g 224)), some (.ref (ad g 225)), some (.ref (ad g 226)), some (.ref (ad g 227)), some (.int 1), some (.int (nI (16 + q))), some (.int (nI 0))] ⟨rfl, rfl, rfl, rfl, rfl, rfl, rfl, rfl, rfl, trivial⟩ (law_167 F hX hE hg hL (16 + q) (by omega) (16 + q) 0 M S (by omega) hJ)
    · exact absurd (show (6 : Int32) ≤ nI 6 by decide) c55
  | succ n ih =>
    intro k M S hin hJ
    refine g_iload (pc := 51) F dL_law_51 rfl ?_
    refine g_bipush (pc := 53) (v := 6) F dL_law_53 (by decide) ?_
    refine g_icmp_ge (pc := 55) (tgt := 124) F dL_law_55 (by decide) (fun c55 => ?_) (fun c55 => ?_)
    · exact absurd c55 (nI_ge (b := 6) (by omega) (by decide))
    · refine g_iload (pc := 58) F dL_law_58 rfl ?_
      refine g_if_eq (pc := 60) (tgt := 124) F dL_law_60 (by decide) (fun c60 => ?_) (fun c60 => ?_)
      · exact absurd c60 (by decide)
      · refine g_aload_n (pc := 63) F dL_law_63 rfl ?_
        refine g_aload_n (pc := 64) F dL_law_64 rfl ?_
        refine g_aload_n (pc := 65) F dL_law_65 rfl ?_
        refine g_aload (pc := 66) F dL_law_66 rfl ?_
        refine g_aload (pc := 68) F dL_law_68 rfl ?_
        refine g_aload_n (pc := 70) F dL_law_70 rfl ?_
        refine g_iconst (pc := 71) (v := 1) F dL_law_71 (by decide) ?_
        refine g_iload (pc := 72) F dL_law_72 rfl ?_
        refine g_iaddN (pc := 74) (a := 1) (b := k) F rfl rfl dL_law_74 ?_
        refine g_callSS (pc := 75) (rf2 := 0) (rl2 := 0) F hX cs_L_97 (by rfl) (by rfl) (Nat.le_of_ble_eq_true (by rfl)) (by decide) dL_law_75 (c_L_cell _ g _ b L xs hL (1 + k) (by omega)) (fun v Mc hz => ?_)
        obtain ⟨⟨y, rfl⟩, rfl⟩ := hz
        refine g_ldc (pc := 78) F wk_L_8 dL_law_78 ?_
        refine g_iand (pc := 80) F dL_law_80 ?_
        refine g_sipush (pc := 81) (v := 192) F dL_law_81 (by decide) ?_
        refine g_idiv (pc := 84) F (by decide) dL_law_84 ?_
        refine g_sipush (pc := 85) (v := 192) F dL_law_85 (by decide) ?_
        refine g_imul (pc := 88) F dL_law_88 ?_
        refine g_iload (pc := 89) F dL_law_89 rfl ?_
        refine g_iconst (pc := 91) (v := 3) F dL_law_91 (by decide) ?_
        refine g_icmp_ge (pc := 92) (tgt := 99) F dL_law_92 (by decide) (fun c92 => ?_) (fun c92 => ?_)
        · refine g_iload (pc := 99) F dL_law_99 rfl ?_
          refine g_iconst (pc := 101) (v := 3) F dL_law_101 (by decide) ?_
          refine g_icmp_ne (pc := 102) (tgt := 110) F dL_law_102 (by decide) (fun c102 => ?_) (fun c102 => ?_)
          · refine g_bipush (pc := 110) (v := 13) F dL_law_110 (by decide) ?_
            refine g_iadd (pc := 112) F dL_law_112 ?_
            refine g_callS (pc := 113) (rf2 := 6) (rl2 := 161) F cs_L_100 (by rfl) (by rfl) (Nat.le_of_ble_eq_true (by rfl)) (by decide) dL_law_113 (c_L_acts _ g M S hJ _) (fun v M2 hz => ?_)
            obtain ⟨rfl, M1, S1, rfl, hJ1⟩ := hz
            refine g_istore (pc := 116) F dL_law_116 (by decide) rfl ?_
            refine g_iinc (pc := 118) (v := nI (k + 1)) F dL_law_118 rfl (nI_1 k) (by decide) rfl ?_
            refine g_goto (pc := 121) (tgt := 51) F dL_law_121 (by decide) ?_
            exact G.sub [some (.ref b), some (.ref (ad g 0)), some (.ref (ad g 224)), some (.ref (ad g 225)), some (.ref (ad g 226)), some (.ref (ad g 227)), some (.int 1), some (.int (nI (k + 1))), none] ⟨rfl, rfl, rfl, rfl, rfl, rfl, rfl, rfl, trivial⟩ (ih (k + 1) M1 S1 (by omega) hJ1)
          · refine g_bipush (pc := 105) (v := 9) F dL_law_105 (by decide) ?_
            refine g_goto (pc := 107) (tgt := 112) F dL_law_107 (by decide) ?_
            refine g_iadd (pc := 112) F dL_law_112 ?_
            refine g_callS (pc := 113) (rf2 := 6) (rl2 := 161) F cs_L_100 (by rfl) (by rfl) (Nat.le_of_ble_eq_true (by rfl)) (by decide) dL_law_113 (c_L_acts _ g M S hJ _) (fun v M2 hz => ?_)
            obtain ⟨rfl, M1, S1, rfl, hJ1⟩ := hz
            refine g_istore (pc := 116) F dL_law_116 (by decide) rfl ?_
            refine g_iinc (pc := 118) (v := nI (k + 1)) F dL_law_118 rfl (nI_1 k) (by decide) rfl ?_
            refine g_goto (pc := 121) (tgt := 51) F dL_law_121 (by decide) ?_
            exact G.sub [some (.ref b), some (.ref (ad g 0)), some (.ref (ad g 224)), some (.ref (ad g 225)), some (.ref (ad g 226)), some (.ref (ad g 227)), some (.int 1), some (.int (nI (k + 1))), none] ⟨rfl, rfl, rfl, rfl, rfl, rfl, rfl, rfl, trivial⟩ (ih (k + 1) M1 S1 (by omega) hJ1)
        · refine g_iconst (pc := 95) (v := 0) F dL_law_95 (by decide) ?_
          refine g_goto (pc := 96) (tgt := 112) F dL_law_96 (by decide) ?_
          refine g_iadd (pc := 112) F dL_law_112 ?_
          refine g_callS (pc := 113) (rf2 := 6) (rl2 := 161) F cs_L_100 (by rfl) (by rfl) (Nat.le_of_ble_eq_true (by rfl)) (by decide) dL_law_113 (c_L_acts _ g M S hJ _) (fun v M2 hz => ?_)
          obtain ⟨rfl, M1, S1, rfl, hJ1⟩ := hz
          refine g_istore (pc := 116) F dL_law_116 (by decide) rfl ?_
          refine g_iinc (pc := 118) (v := nI (k + 1)) F dL_law_118 rfl (nI_1 k) (by decide) rfl ?_
          refine g_goto (pc := 121) (tgt := 51) F dL_law_121 (by decide) ?_
          exact G.sub [some (.ref b), some (.ref (ad g 0)), some (.ref (ad g 224)), some (.ref (ad g 225)), some (.ref (ad g 226)), some (.ref (ad g 227)), some (.int 1), some (.int (nI (k + 1))), none] ⟨rfl, rfl, rfl, rfl, rfl, rfl, rfl, rfl, trivial⟩ (ih (k + 1) M1 S1 (by omega) hJ1)
set_option maxHeartbeats 4000000 in
set_option maxRecDepth 100000 in
theorem law_29 {X : XT} {g : Gm} {b L : Nat} {xs : Nat → Int32} (F : FX X g code 9 RL 9 364) (hX : SX X g b L xs) (hE : EL X b) (hg : EG X g) (hL : L ≤ 260) (M : Mem) (S : SV) (hS0 : S 0 = 0) (hJ : J M (upd S 3 1)) : G X g 9 (WM M S) 29 [some (.ref b), some (.ref (ad g 0)), some (.ref (ad g 224)), some (.ref (ad g 225)), some (.ref (ad g 226)), some (.ref (ad g 227)), none, none, none] [] := by
  refine g_aload_n (pc := 29) F dL_law_29 rfl ?_
  refine g_iconst (pc := 30) (v := 3) F dL_law_30 (by decide) ?_
  refine g_iconst (pc := 31) (v := 1) F dL_law_31 (by decide) ?_
  refine g_gst (pc := 32) (j := 3) F rfl (by decide) dL_law_32 ?_
  have hJ0 := hJ
  obtain ⟨P, pn, hCA, hAI, -⟩ := hJ0
  refine g_aload_n (pc := 33) F dL_law_33 rfl ?_
  refine g_iconst (pc := 34) (v := 0) F dL_law_34 (by decide) ?_
  refine g_callV (pc := 35) (rf2 := 3) (rl2 := 65) F cs_L_79 kd0 rfl (by decide) (by rfl) (by rfl) (Nat.le_of_ble_eq_true (by rfl)) (by decide) dL_law_35 (w_count _ g M (upd S 3 1) (upd S 3 1) P pn hCA hAI _) (fun v M2 hz => ?_)
  obtain ⟨rfl, rfl⟩ := hz
  rw [show oCount (upd S 3 1, P, pn, fun _ => 0, 0) 0 = upd S 3 1 0 from cnt_eq (upd S 3 1) P pn 0 (by decide), upd_ne _ _ (show 0 ≠ 3 by decide), hS0]
  refine g_if_ne (pc := 38) (tgt := 45) F dL_law_38 (by decide) (fun c38 => ?_) (fun c38 => ?_)
  · exact absurd rfl c38
  · refine g_iconst (pc := 41) (v := 1) F dL_law_41 (by decide) ?_
    refine g_goto (pc := 42) (tgt := 46) F dL_law_42 (by decide) ?_
    refine g_istore (pc := 46) F dL_law_46 (by decide) rfl ?_
    refine g_iconst (pc := 48) (v := 0) F dL_law_48 (by decide) ?_
    refine g_istore (pc := 49) F dL_law_49 (by decide) rfl ?_
    exact G.sub [some (.ref b), some (.ref (ad g 0)), some (.ref (ad g 224)), some (.ref (ad g 225)), some (.ref (ad g 226)), some (.ref (ad g 227)), some (.int 1), some (.int (nI 0)), none] ⟨rfl, rfl, rfl, rfl, rfl, rfl, rfl, rfl, trivial⟩ (law_51 F hX hE hg hL 6 0 M (upd S 3 1) rfl hJ)
/-! THE START -/
theorem LSt0 : LSt M0 = fun _ => 0 := by
  have z : ∀ k, kd k ≠ 3 → kd k ≠ 17 → k ≠ 999 → ∀ j, M0 k j = 0 := fun k h1 h2 h3 j => M0_z h1 h2 h3 j
  funext k
  unfold LSt
  split
  · exact z 224 (by decide) (by decide) (by decide) _
  · split
    · split
      · exact z 225 (by decide) (by decide) (by decide) _
      · exact z 226 (by decide) (by decide) (by decide) _
    · exact z 227 (by decide) (by decide) (by decide) _
def S0 : SV := upd (fun _ => 0) 3 1
theorem Inv_0 : Inv S0 0 := by
  refine ⟨⟨0, by decide, rfl⟩, ⟨0, by decide, rfl⟩, rfl, by decide, ⟨1, by decide, rfl⟩, fun i hi => ?_, fun i hi => ?_⟩
  · exact absurd hi (by show ¬ i < cn S0; rw [show cn S0 = 0 from by decide]; omega)
  · exact absurd hi (by show ¬ i < gn S0; rw [show gn S0 = 0 from by decide]; omega)
theorem HR_0 : HR M0 1 S0 := by
  have h : ∀ j, M0 1 j = if j = 5 then 1 else 0 := fun j => M0_h (by decide) j
  refine ⟨?_, ?_, ?_, ?_, fun i hi => ?_, fun i hi => ?_⟩
  · rw [h]; rfl
  · rw [h]; rfl
  · rw [h]; rfl
  · rw [h]; rfl
  · exact absurd hi (by rw [show cn S0 = 0 from by decide]; omega)
  · exact absurd hi (by rw [show gn S0 = 0 from by decide]; omega)
theorem J_0 : J M0 S0 := by
  have z : ∀ k, kd k ≠ 3 → kd k ≠ 17 → k ≠ 999 → ∀ j, M0 k j = 0 := fun k h1 h2 h3 j => M0_z h1 h2 h3 j
  refine ⟨fun _ => S0, 0, ⟨fun k => k, HR_0, ⟨by decide, ?_, fun j hj => absurd hj (Nat.not_lt_zero j)⟩, by decide, ?_, ⟨fun k hk => ⟨M0_64 k, hk⟩, fun i j _ _ e => e⟩, fun k hk => absurd hk (Nat.not_lt_zero k)⟩, ⟨⟨0, by decide, Inv_0⟩, fun k hk => absurd hk (Nat.not_lt_zero k), fun j hj => absurd hj (Nat.not_lt_zero j)⟩, fun k hk => absurd hk (by rw [show gn S0 = 0 from by decide]; omega)⟩
  · rw [z 220 (by decide) (by decide) (by decide)]; exact nI0
  · rw [z 63 (by decide) (by decide) (by decide)]; exact nI0
theorem k_astore {X : XT} {g : Gm} {cc : ByteArray} {nL : Nat} {own : String} {rf rl rc rs : Nat} {E : Nat → va_E} {n cs sl : Nat} {pc : Nat} {lv : List (Option Value)} {st : List Value} (F : FK X g cc nL own rf rl rc rs) {i : Nat} {x : Nat} (hd : decode cc pc = .ok (.astore i, 2)) (hn : i < nL) (ho : lok lv i = true) (k : KG X g nL E n cs sl (pc + 2) (lst lv i (some (.ref x))) st) : KG X g nL E n cs sl pc lv (.ref x :: st) := by
  obtain ⟨p, l, e, R, s, m, args, below, meth, c, cells, slots, Q⟩ := X
  obtain ⟨⟨hx, hb, hml, hown, hts⟩, hW, hrf, hrl, hrc, hrs, hgb⟩ := F
  intro H locs ls hP hS hL
  exact lv_astore hx hb hd hL.asc hn rfl (fun ls h => k H locs ls hP hS (lhas.set1 ho h))
theorem ws_tbl {w : Cond} (h : w ∈ lw_ws) : w ∈ lw_tbl := (List.mem_filter.mp h).1
theorem nest_tbl {w : Cond} (h : w ∈ nestW) : w ∈ lw_tbl := by
  rw [nestW_tbl] at h
  obtain ⟨i, -, hi⟩ := List.mem_filterMap.mp h
  exact List.mem_of_getElem? hi
theorem nest_on {w : Cond} (h : w ∈ nestW) : w.onTables = true := by
  have h1 := nest_kind w h
  cases w <;> first | rfl | cases h1
theorem arr_prim {s : State} {args : Array Value} {ty : FieldType} (h : (Cond.arrayClass ty).before args s = true) (hR : ∀ cA, s.vm.findClass ("[" ++ ty.toString) = some cA → va_RA s cA ty) : ∃ cA, ArrOfT s cA ty ∧ va_RA s cA ty := by
  obtain ⟨cA, kA, comp, h1, h2, h3⟩ := Cond.arrayClass_spec h
  exact ⟨cA, fun n z => ⟨fun k h => (by cases h), kA, h2, comp, h3⟩, hR cA h1⟩
theorem arr_obj {s : State} {args : Array Value} {C : String} (h : (Cond.arrayOver (.object C)).before args s = true) : ∃ cA, ArrOfT s cA (.object C) ∧ va_RA s cA (.object C) := by
  obtain ⟨comp, cA, kA, h1, h2, h3, h4, h5⟩ := Cond.arrayOver_spec h
  exact ⟨cA, fun n z => ⟨fun k h => (by cases h), kA, h3, comp, h4⟩, kA, comp, h3, h4, h1, h5⟩
set_option maxHeartbeats 4000000 in
set_option maxRecDepth 100000 in
theorem law_known {s : State} {args : Array Value} (hts : ∀ w ∈ lw_tbl, w.before args s = true) : ∃ g : Gm, cOK g s ∧ gB g = s.heap.size := by
  have hws : ∀ w ∈ lw_ws, w.before args s = true := fun w h => hts w (ws_tbl h)
  obtain ⟨c0, i0, hKn0⟩ := u_known (C := RX0) (T := TX0) (N := 10) (n := 10) hws uin_X0 (hws _ win_X0)
  obtain ⟨c1, i1, hKn1⟩ := u_known (C := RX1) (T := TX1) (N := 5) (n := 5) hws uin_X1 (hws _ win_X1)
  obtain ⟨c2, i2, hKn2⟩ := u_known (C := RX2) (T := TX2) (N := 4) (n := 4) hws uin_X2 (hws _ win_X2)
  obtain ⟨c3, i3, hKn3⟩ := u_known (C := RX3) (T := TX3) (N := 6) (n := 6) hws uin_X3 (hws _ win_X3)
  obtain ⟨c4, i4, hKn4⟩ := u_known (C := RX4) (T := TX4) (N := 2) (n := 2) hws uin_X4 (hws _ win_X4)
  obtain ⟨c5, i5, hKn5⟩ := u_known (C := RX5) (T := TX5) (N := 7) (n := 7) hws uin_X5 (hws _ win_X5)
  obtain ⟨c6, i6, hKn6⟩ := u_known (C := RX6) (T := TX6) (N := 2) (n := 2) hws uin_X6 (hws _ win_X6)
  obtain ⟨c7, i7, hKn7⟩ := u_known (C := RX7) (T := TX7) (N := 5) (n := 5) hws uin_X7 (hws _ win_X7)
  obtain ⟨a0, p0, q0⟩ := arr_prim (hws _ wac_int) (fun _ h => h)
  obtain ⟨a1, p1, q1⟩ := arr_prim (hws _ wac_char) (fun _ h => h)
  have v0 := hts (.arrayOver (.object RX0)) (by decide +kernel)
  have v2 := hts (.arrayOver (.object RX2)) (by decide +kernel)
  have v3 := hts (.arrayOver (.object RX3)) (by decide +kernel)
  obtain ⟨a2, p2, q2⟩ := arr_obj v0
  obtain ⟨a3, p3, q3⟩ := arr_obj v2
  obtain ⟨a4, p4, q4⟩ := arr_obj v3
  refine ⟨((fun k => if k = 0 then c0 else if k = 1 then c1 else if k = 2 then c2 else if k = 3 then c3 else if k = 4 then c4 else if k = 5 then c5 else if k = 6 then c6 else c7, fun k => if k = 0 then i0 else if k = 1 then i1 else if k = 2 then i2 else if k = 3 then i3 else if k = 4 then i4 else if k = 5 then i5 else if k = 6 then i6 else i7), (fun k => if k = 0 then a0 else if k = 1 then a1 else if k = 2 then a2 else if k = 3 then a3 else a4), (fun k => s.heap.size + k), s.heap.size), ⟨⟨fun i j _ _ e => ?_, fun k _ => Nat.le_add_right _ _, ⟨fun k q hq => ?_, fun k q hq => ?_⟩, fun w hw => va_Nw.of (nest_on hw) (hts w (nest_tbl hw))⟩, fun _ => rfl, va_AO.of v0, va_AO.of v2, va_AO.of v3⟩, rfl⟩
  · have e' : s.heap.size + i = s.heap.size + j := e
    omega
  · match k, hq with
    | 0, hq => cases hq; exact hKn0
    | 1, hq => cases hq; exact hKn1
    | 2, hq => cases hq; exact hKn2
    | 3, hq => cases hq; exact hKn3
    | 4, hq => cases hq; exact hKn4
    | 5, hq => cases hq; exact hKn5
    | 6, hq => cases hq; exact hKn6
    | 7, hq => cases hq; exact hKn7
    | k + 8, hq => simp [vwCl] at hq
  · match k, hq with
    | 0, hq => cases hq; exact ⟨p0, q0⟩
    | 1, hq => cases hq; exact ⟨p1, q1⟩
    | 2, hq => cases hq; exact ⟨p2, q2⟩
    | 3, hq => cases hq; exact ⟨p3, q3⟩
    | 4, hq => cases hq; exact ⟨p4, q4⟩
    | k + 5, hq => simp [wTys] at hq
set_option maxHeartbeats 4000000 in
set_option maxRecDepth 100000 in
/-- THE LAW, from its entry -/
theorem whole_start {p : Program} {e : Env} {s : State} {m : MethodId} {below : List Frame} {meth : Method} {c : Code} (l : Launch) (hflags : l.flags = flags0) {b L : Nat} {xs : Nat → Int32} (hL : L ≤ 260) (C0 : lw_At p s m meth c b L xs) : W p l e room_1 s m #[Value.ref b] below meth c s.heap [] 0 0 (lw_Z below #[Value.ref b] s) (entryFrame m ([Value.ref b] : List Value).toArray 9) := by
  obtain ⟨hx, hb, hr, hml, hown, hts, hX, hbl, hlocks, hgv⟩ := id C0
  have hws : ∀ w ∈ lw_ws, w.before #[Value.ref b] s = true := fun w h => hts w (ws_tbl h)
  obtain ⟨g, hg, hgB⟩ := law_known hts
  have cf : CallFix p m c code 9 s #[Value.ref b] lw_ws RL := ⟨hx, hb, hml, hown, hws⟩
  have FKx : FK (p, l, e, room_1, s, m, #[Value.ref b], below, meth, c, 228, 1428, lw_Z below #[Value.ref b] s) g code 9 RL 9 364 687417 7039997 := ⟨cf, hg, rfl, rfl, rfl, rfl, Nat.le_of_eq hgB⟩
  have F : FX (p, l, e, room_1, s, m, #[Value.ref b], below, meth, c, 228, 1428, lw_Z below #[Value.ref b] s) g code 9 RL 9 364 := ⟨cf, hg.1, rfl, rfl, by decide, by decide, Nat.le_of_eq hgB⟩
  have hSX : SX (p, l, e, room_1, s, m, #[Value.ref b], below, meth, c, 228, 1428, lw_Z below #[Value.ref b] s) g b L xs := ⟨hX, hbl, fun h => by
    have h' : gB g ≤ b := h
    omega⟩
  have hEL : EL (p, l, e, room_1, s, m, #[Value.ref b], below, meth, c, 228, 1428, lw_Z below #[Value.ref b] s) b := ⟨rfl, rfl, rfl, hb, hr, hlocks, by decide, by decide, hx⟩
  have hl := lv_entry ([.ref b]) (n := 9) (Nat.le_of_ble_eq_true rfl)
  rw [lg_entry_eq]
  have T : KG (p, l, e, room_1, s, m, #[Value.ref b], below, meth, c, 228, 1428, lw_Z below #[Value.ref b] s) g 9 (wE g M0) 228 228 1428 29 [some (.ref b), some (.ref (ad g 0)), some (.ref (ad g 224)), some (.ref (ad g 225)), some (.ref (ad g 226)), some (.ref (ad g 227)), none, none, none] [] := by
    intro H locs ls hP hS hLv
    refine G.mem (M' := WM M0 (LSt M0)) (WM_LS M0).symm (law_29 F hSX hEL hgB hL M0 (LSt M0) (by rw [LSt0]) (by rw [LSt0]; exact J_0)) H locs ls hP.1 hS hLv
  have K : KG (p, l, e, room_1, s, m, #[Value.ref b], below, meth, c, 228, 1428, lw_Z below #[Value.ref b] s) g 9 (fun k => wE g M0 k) 0 0 0 0 [some (.ref b), none, none, none, none, none, none, none, none] [] := by
    refine k_new (pc := 0) (ci := 7) (fs := [.null, .null, .null, .null, .null]) FKx wcl_L_28 win_X7 wz_X7 rfl uin_X7 tyX7_ok (fun j hj => match j, hj with | 0, _ => rfl | 1, _ => rfl | 2, _ => rfl | 3, _ => rfl | 4, _ => rfl | k + 5, h => absurd h (by omega)) (by decide) (by decide) dL_law_0 ?_
    refine k_dup (pc := 3) FKx dL_law_3 rfl ?_
    refine k_callI (pc := 4) (rf2 := 5) (rl2 := 94) (mc := 223) (ms := 1313) (na := 0) FKx wl_L_96 wi_X7_init wz_X7 wc_X7_init rfl (by decide) (by rfl) (by rfl) (Nat.le_of_ble_eq_true (by rfl)) (by decide) (by decide) dL_law_4 (k_X7_init _ g _ (updE_self _ _ _)) ?_
    refine k_astore_n (pc := 7) FKx dL_law_7 (by decide) rfl ?_
    refine k_iconst (pc := 8) (v := 4) FKx dL_law_8 (by decide) ?_
    refine k_newi (pc := 9) (N := 4) FKx rfl (by decide) (by decide) (by decide) dL_law_9 ?_
    refine k_astore_n (pc := 11) FKx dL_law_11 (by decide) rfl ?_
    refine k_bipush (pc := 12) (v := 48) FKx dL_law_12 (by decide) ?_
    refine k_newi (pc := 14) (N := 48) FKx rfl (by decide) (by decide) (by decide) dL_law_14 ?_
    refine k_astore_n (pc := 16) FKx dL_law_16 (by decide) rfl ?_
    refine k_bipush (pc := 17) (v := 42) FKx dL_law_17 (by decide) ?_
    refine k_newi (pc := 19) (N := 42) FKx rfl (by decide) (by decide) (by decide) dL_law_19 ?_
    refine k_astore (pc := 21) FKx dL_law_21 (by decide) rfl ?_
    refine k_bipush (pc := 23) (v := 16) FKx dL_law_23 (by decide) ?_
    refine k_newi (pc := 25) (N := 16) FKx rfl (by decide) (by decide) (by decide) dL_law_25 ?_
    refine k_astore (pc := 27) FKx dL_law_27 (by decide) rfl ?_
    refine KG.eqv (E' := wE g M0) (fun k hk => Or.inl ?_) ?_
    · by_cases h1 : k < 224
      · rw [updE_ne _ _ (by omega), updE_ne _ _ (by omega), updE_ne _ _ (by omega), updE_ne _ _ (by omega), fin_in g _ (Nat.zero_le k) h1]
      · rcases (show k = 224 ∨ k = 225 ∨ k = 226 ∨ k = 227 by omega) with rfl | rfl | rfl | rfl
        · rw [updE_ne _ _ (by decide), updE_ne _ _ (by decide), updE_ne _ _ (by decide), updE_self, w0_arr g (k := 224) (c := 9) (n := 4) (by decide) rfl (by decide) (by decide) (by decide)]
        · rw [updE_ne _ _ (by decide), updE_ne _ _ (by decide), updE_self, w0_arr g (k := 225) (c := 11) (n := 48) (by decide) rfl (by decide) (by decide) (by decide)]
        · rw [updE_ne _ _ (by decide), updE_self, w0_arr g (k := 226) (c := 12) (n := 42) (by decide) rfl (by decide) (by decide) (by decide)]
        · rw [updE_self, w0_arr g (k := 227) (c := 13) (n := 16) (by decide) rfl (by decide) (by decide) (by decide)]
    · exact KG.cnt rfl rfl rfl T
  refine K s.heap [] _ ⟨fun k q hq => ?_, by rw [hgB]; rfl⟩ va_S.rf (lhas.of hl (fun i v hi => ?_))
  · have h0 : (cW g (fun k => wE g M0 k) 0)[k]? = none := by
      show ([] : va_W)[k]? = none
      rfl
    rw [h0] at hq
    cases hq
  · have := lvE_sound 8 [.ref b] 0 i v hi
    rwa [Nat.zero_add] at this
