/-! THE CLAIM OUT OF ONE WALK OF THE LAW'S BODY. Your part is whole_start (and what it stands on); all else here is the same for every law, but numbers. -/
def R_law : String := "RenewalClocksLaw"
def lw_P (b : Addr) (xs : List Int32) (args : Array Value) (s : State) : Prop := args = #[.ref b] ∧ s.IntsAt b xs ∧ xs.length ≤ 3072 ∧ (Jvm.Cond.and given_1 narrow_1).before args s = true
/-- what a walk over the start with the record d0 says of its end, said of the start itself -/
theorem lw_closed {s t : State} {o : Outcome} {d0 : Drawn} {L : List Loc} {k n : Nat} (hd0 : s.drawn.sameBut d0 lw_cs) (hv : ∃ v, o = .returned v) (hW : (s.setDrawn d0).WarmedH t.vm) (hs : (s.setDrawn d0).sameButNew ({ t with vm := s.vm } : State) L k n) : State.butDraws s t lw_cs (fun t1 => Framed s o t1 L k n) := by
  have h2 : t.drawn = d0 := congrArg State.drawn hs.1
  refine ⟨⟨hv, hW, State.sameButNew.setDrawn hs s.drawn⟩, ?_, by decide⟩
  rw [h2]
  exact hd0
def lw_Q (_ : Array Value) (s : State) (o : Outcome) (t : State) : Prop := o = .returned (some (.int 1)) ∧ State.butDraws s t lw_cs (fun t1 => Framed s o t1 [] 600000 7302249)
def lw_Z (below : List Frame) (a : Array Value) (s : State) : State → Prop := fun t => ∃ o, t.status = .running ∧ Ended t below o ∧ lw_Q a s o t
/-- the law's own end, with 1 on the stack, nothing written that was there before, its room as the claim has it; d0: the record of draws at this point (at the entry s.drawn: begin with 'refine W.base ?_' and 'have hd0 := Drawn.sameBut.refl s.drawn lw_cs') -/
theorem lw_ret {p : Program} {l : Launch} {e : Env} {s : State} {m : MethodId} {below : List Frame} {meth : Method} {c : Code} {b : Nat} {d0 : Drawn} (hd0 : s.drawn.sameBut d0 lw_cs) (hx : p.tables.exec = Jvm.exec) (hb : c.code = code) (hr : meth.sig.returnType = ret) (hlocks : meth.locks = false) {pc : Nat} {H : Heap} {ls : Array Slot} (hdg : decode code pc = .ok (.ireturn, 1)) : W p l e room_1 (s.setDrawn d0) m #[Value.ref b] below meth c H [] 600000 7302249 (lw_Z below #[Value.ref b] s) (F0 m pc ls [.int 1]) := by
  intro T hT X
  obtain ⟨fs, hret, hrun, hended, hW, hframe⟩ := X.leave (v := some (.int 1)) (hlocks := hlocks) (fun h => by rw [hr] at h; cases h)
  have hmeth' : T.vm.method? m = some meth := X.method'
  refine ⟨T.setFrames fs, ?_, .returned (some (.int 1)), hrun, hended, rfl, lw_closed hd0 ⟨_, rfl⟩ hW hframe⟩
  jvm_step X.here [X.here.top, hx, hb, hdg, hmeth', hr, ret, narrow_b1]
  (try refine ⟨rfl, ?_⟩); (try refine ⟨rfl, ?_⟩)
  first | (intro acts; rw [hret _ acts rfl rfl rfl]) | rw [hret _ _ rfl rfl rfl]
  exact Steps.refl _
/-- what holds at the law's entry: the machine, the code, the tables' words (any of lw_tbl by 'hts w (by decide +kernel)'), the script of L ints xs at the cell b, what the Statement gives of the start (any of its parts by flat_of_before) -/
def lw_At (p : Program) (s : State) (m : MethodId) (meth : Method) (c : Code) (b L : Nat) (xs : Nat → Int32) : Prop :=
  p.tables.exec = Jvm.exec ∧ c.code = code ∧ meth.sig.returnType = ret ∧ c.maxLocals = 4 ∧ s.vm.findClass R_law = some m.cls ∧ (∀ w ∈ lw_tbl, w.before #[Value.ref b] s = true) ∧ va_X b L xs s s.heap ∧ b < s.heap.size ∧ meth.locks = false ∧ (Jvm.Cond.and given_1 narrow_1).before #[Value.ref b] s = true
/-! THE LAW'S LOOP -/
def SX (X : XT) (g : Gm) (b L : Nat) (xs : Nat → Int32) : Prop := match X with
  | (_, _, _, _, s, _, _, _, _, _, _, _, _) => va_X b L xs s s.heap ∧ b < s.heap.size ∧ ¬ gA g b
def EL (X : XT) (b : Nat) : Prop := match X with
  | (p, l, e, R, s, m, args, below, meth, c, cells, slots, Q) => R = room_1 ∧ args = #[Value.ref b] ∧ Q = lw_Z below #[Value.ref b] s ∧ c.code = code ∧ meth.sig.returnType = ret ∧ meth.locks = false ∧ cells ≤ 600000 ∧ slots ≤ 7302249 ∧ ∀ g : Gm, gB g = s.heap.size → True
def EG (X : XT) (g : Gm) : Prop := match X with
  | (_, _, _, _, s, _, _, _, _, _, _, _, _) => gB g = s.heap.size
section GLAW
variable {X : XT} {g : Gm} {cc : ByteArray} {nL : Nat} {own : String} {rf rl : Nat} {M : Mem} {pc : Nat} {lv : List (Option Value)} {st : List Value}
theorem g_sld (F : FX X g cc nL own rf rl) {b L q : Nat} {xs : Nat → Int32} {i : Int32} (hX : SX X g b L xs) (hi : i = nI q) (hq : q < L) (hL : L < 2147483648) (hd : decode cc pc = .ok (.iaload, 1)) (kk : G X g nL M (pc + 1) lv (.int (xs q) :: st)) : G X g nL M pc lv (.int i :: .ref b :: st) := by
  obtain ⟨p, l, e, R, s, m, args, below, meth, c, cells, slots, Q⟩ := X
  obtain ⟨⟨hx, hb, hml, hown, hts⟩, hW, hrf, hrl, hcl, hsl, hgb⟩ := F
  intro H locs ls hP hS hL
  subst hi
  refine va_sld hx hb hX.1 hX.2.1 hX.2.2 hS (vp_in_nI hq (by omega)) hd ?_
  rw [nI_clamp (by omega)]
  exact kk H locs ls hP hS hL
theorem g_slen (F : FX X g cc nL own rf rl) {b L : Nat} {xs : Nat → Int32} (hX : SX X g b L xs) (hd : decode cc pc = .ok (.arraylength, 1)) (kk : G X g nL M (pc + 1) lv (.int (nI L) :: st)) : G X g nL M pc lv (.ref b :: st) := by
  obtain ⟨p, l, e, R, s, m, args, below, meth, c, cells, slots, Q⟩ := X
  obtain ⟨⟨hx, hb, hml, hown, hts⟩, hW, hrf, hrl, hcl, hsl, hgb⟩ := F
  intro H locs ls hP hS hL
  exact va_slen hx hb hX.1 hX.2.1 hX.2.2 hS hd (kk H locs ls hP hS hL)
theorem g_lawend (F : FX X g code nL own rf rl) {b : Nat} (h : EL X b) (hg : EG X g) (hd : decode code pc = .ok (.ireturn, 1)) : G X g nL M pc lv [.int 1] := by
  obtain ⟨p, l, e, R, s, m, args, below, meth, c, cells, slots, Q⟩ := X
  obtain ⟨⟨hx, hb, hml, hown, hts⟩, hW, hrf, hrl, hcl, hsl, hgb⟩ := F
  obtain ⟨h1, h2, h3, h4, h5, h6, h7, h8, -⟩ := h
  subst h1
  subst h2
  subst h3
  intro H locs ls hP hS hL
  refine va_forget (fun q hq => ?_) ?_
  · have h := hS.2.2 q hq
    have hg' : gB g = s.heap.size := hg
    have h' : gB g ≤ q.base := h
    omega
  refine W.widen (k := 600000) (n := 7302249) h7 h8 ?_
  exact lw_ret (d0 := s.drawn) (Drawn.sameBut.refl s.drawn lw_cs) hx hb h5 h6 hd
end GLAW
theorem sub6 {L i : Nat} (hL : L ≤ 3072) (hi : i ≤ 4000) : ¬ nI L - 6 < nI i ↔ i + 6 ≤ L := by
  by_cases h : 6 ≤ L
  · rw [show (6 : Int32) = nI 6 from rfl, nI_sub h, nI_ltI (by omega) (by omega)]
    omega
  · have hs : ∀ L, L < 6 → nI L - 6 < 0 := by decide
    have h1 := hs L (by omega)
    have h2 : (0 : Int32) ≤ nI i := Int32.not_lt.mp (nI_pos (by omega))
    refine ⟨fun e => absurd (Int32.lt_of_lt_of_le h1 h2) e, fun e => by omega⟩
theorem and31 (x : Int32) : ∃ k, k < 32 ∧ x &&& 31 = nI k := by
  refine ⟨(x &&& 31).toBitVec.toNat, ?_, ?_⟩
  · have h : (x &&& 31).toBitVec.toNat = x.toBitVec.toNat &&& 31 := by
      rw [Int32.toBitVec_and, BitVec.toNat_and]
      rfl
    rw [h]
    exact Nat.lt_succ_of_le Nat.and_le_right
  · apply Int32.toBitVec_inj.mp
    show (x &&& 31).toBitVec = (Int32.ofNat (x &&& 31).toBitVec.toNat).toBitVec
    rw [Int32.toBitVec_ofNat', BitVec.ofNat_toNat, BitVec.setWidth_eq]
theorem lg_same (x : Int64) : lg_cmp x x = 0 := by
  unfold lg_cmp
  rw [if_neg (by exact Int64.lt_irrefl), if_pos rfl]
set_option maxHeartbeats 4000000 in
set_option maxRecDepth 100000 in
theorem law_loop {X : XT} {g : Gm} {b L : Nat} {xs : Nat → Int32} (F : FX X g code 4 RL 12 446) (hX : SX X g b L xs) (hE : EL X b) (hg : EG X g) (hL : L ≤ 3072) : ∀ (n i : Nat) (M : Mem), (i ≤ 3078 ∧ L < i + 6 * n + 6) → Jn M → G X g 4 M 18 [some (.ref b), some (.ref (ad g 0)), some (.ref (ad g 224)), some (.int (nI i))] [] := by
  have k0 := kd0
  have k224 := kd224
  intro n
  induction n with
  | zero =>
    intro i M hin hJ
    refine g_iload_n (pc := 18) F dL_law_18 rfl ?_
    refine g_aload_n (pc := 19) F dL_law_19 rfl ?_
    refine g_slen (pc := 20) F hX dL_law_20 ?_
    refine g_bipush (pc := 21) (v := 6) F dL_law_21 (by decide) ?_
    refine g_isub (pc := 23) F dL_law_23 ?_
    refine g_icmp_gt (pc := 24) (tgt := 666) F dL_law_24 (by decide) (fun c24 => ?_) (fun c24 => ?_)
    · refine g_iconst (pc := 666) (v := 1) F dL_law_666 (by decide) ?_
      exact g_lawend (pc := 667) F hE hg dL_law_667
    · exact absurd ((sub6 hL (by omega)).mp c24) (by omega)
  | succ n ih =>
    intro i M hin hJ
    refine g_iload_n (pc := 18) F dL_law_18 rfl ?_
    refine g_aload_n (pc := 19) F dL_law_19 rfl ?_
    refine g_slen (pc := 20) F hX dL_law_20 ?_
    refine g_bipush (pc := 21) (v := 6) F dL_law_21 (by decide) ?_
    refine g_isub (pc := 23) F dL_law_23 ?_
    refine g_icmp_gt (pc := 24) (tgt := 666) F dL_law_24 (by decide) (fun c24 => ?_) (fun c24 => ?_)
    · refine g_iconst (pc := 666) (v := 1) F dL_law_666 (by decide) ?_
      exact g_lawend (pc := 667) F hE hg dL_law_667
    · have h6 : i + 6 ≤ L := (sub6 hL (by omega)).mp c24
      obtain ⟨pn, tn, j⟩ := hJ
      have jA := j.2.2.1
      have jI := j.2.2.2.1
      obtain ⟨t, ht, hi⟩ := jI.1
      have hi : Inv (M 225) t := hi
      have step : ∀ M2, Jn M2 → G X g 4 M2 660 [some (.ref b), some (.ref (ad g 0)), some (.ref (ad g 224)), some (.int (nI i))] [] := by
        intro M2 hJ2
        refine g_iinc (pc := 660) F dL_law_660 rfl rfl (by decide) rfl ?_
        refine g_goto (pc := 663) (tgt := 18) F dL_law_663 (by decide) ?_
        refine G.sub [some (.ref b), some (.ref (ad g 0)), some (.ref (ad g 224)), some (.int (nI (i + 6)))] ⟨rfl, rfl, rfl, ?_, trivial⟩ (ih (i + 6) M2 (by omega) hJ2)
        show some (Value.int (nI i + Int32.ofInt 6)) = some (Value.int (nI (i + 6)))
        rw [show Int32.ofInt 6 = nI 6 from rfl, nI_add]
      refine g_aload_n (pc := 27) F dL_law_27 rfl ?_
      refine g_iload_n (pc := 28) F dL_law_28 rfl ?_
      refine g_sld (pc := 29) (q := i) F hX rfl (by omega) (by omega) dL_law_29 ?_
      refine g_bipush (pc := 30) (v := 31) F dL_law_30 (by decide) ?_
      refine g_iand (pc := 32) F dL_law_32 ?_
      obtain ⟨kx, hkx, hx31⟩ := and31 (xs i)
      match kx, hkx, hx31 with
      | 0, _, hx31 =>
        refine g_tableIn (pc := 33) (tgt := 128) F dL_law_33 (by rw [hx31]; decide) (by rw [hx31]; decide) (by rw [hx31]; rfl) (by decide) ?_
        refine g_aload_n (pc := 128) F dL_law_128 rfl ?_
        refine g_aload_n (pc := 129) F dL_law_129 rfl ?_
        refine g_iload_n (pc := 130) F dL_law_130 rfl ?_
        refine g_iconst (pc := 131) (v := 1) F dL_law_131 (by decide) ?_
        refine g_iadd (pc := 132) F dL_law_132 ?_
        refine g_sld (pc := 133) (q := i + 1) F hX (by rw [show (1 : Int32) = nI 1 from rfl, nI_add]) (by omega) (by omega) dL_law_133 ?_
        refine g_aload_n (pc := 134) F dL_law_134 rfl ?_
        refine g_iload_n (pc := 135) F dL_law_135 rfl ?_
        refine g_iconst (pc := 136) (v := 2) F dL_law_136 (by decide) ?_
        refine g_iadd (pc := 137) F dL_law_137 ?_
        refine g_sld (pc := 138) (q := i + 2) F hX (by rw [show (2 : Int32) = nI 2 from rfl, nI_add]) (by omega) (by omega) dL_law_138 ?_
        refine g_aload_n (pc := 139) F dL_law_139 rfl ?_
        refine g_iload_n (pc := 140) F dL_law_140 rfl ?_
        refine g_iconst (pc := 141) (v := 3) F dL_law_141 (by decide) ?_
        refine g_iadd (pc := 142) F dL_law_142 ?_
        refine g_sld (pc := 143) (q := i + 3) F hX (by rw [show (3 : Int32) = nI 3 from rfl, nI_add]) (by omega) (by omega) dL_law_143 ?_
        refine g_aload_n (pc := 144) F dL_law_144 rfl ?_
        refine g_iload_n (pc := 145) F dL_law_145 rfl ?_
        refine g_iconst (pc := 146) (v := 4) F dL_law_146 (by decide) ?_
        refine g_iadd (pc := 147) F dL_law_147 ?_
        refine g_sld (pc := 148) (q := i + 4) F hX (by rw [show (4 : Int32) = nI 4 from rfl, nI_add]) (by omega) (by omega) dL_law_148 ?_
        refine g_aload_n (pc := 149) F dL_law_149 rfl ?_
        refine g_iload_n (pc := 150) F dL_law_150 rfl ?_
        refine g_iconst (pc := 151) (v := 5) F dL_law_151 (by decide) ?_
        refine g_iadd (pc := 152) F dL_law_152 ?_
        refine g_sld (pc := 153) (q := i + 5) F hX (by rw [show (5 : Int32) = nI 5 from rfl, nI_add]) (by omega) (by omega) dL_law_153 ?_
        refine g_callV (pc := 154) (rf2 := 4) (rl2 := 104) F cs_L_13 k0 rfl (by decide) (by rfl) (by rfl) (Nat.le_of_ble_eq_true (by rfl)) (by decide) dL_law_154 (c_X7_clock _ g M (AM M pn tn) jA jI (xs (i + 1)) (xs (i + 2)) (xs (i + 3)) (xs (i + 4)) (xs (i + 5))) (fun v M1 hz => ?_)
        obtain ⟨rfl, q1, q2, q3⟩ := hz
        have e225 : M1 225 = M 225 := q3 225 (by decide)
        have e224 : M1 224 = M 224 := q3 224 (by decide)
        refine g_aload_n (pc := 157) F dL_law_157 rfl ?_
        refine g_aload_n (pc := 158) F dL_law_158 rfl ?_
        refine g_iload_n (pc := 159) F dL_law_159 rfl ?_
        refine g_iconst (pc := 160) (v := 1) F dL_law_160 (by decide) ?_
        refine g_iadd (pc := 161) F dL_law_161 ?_
        refine g_sld (pc := 162) (q := i + 1) F hX (by rw [show (1 : Int32) = nI 1 from rfl, nI_add]) (by omega) (by omega) dL_law_162 ?_
        refine g_aload_n (pc := 163) F dL_law_163 rfl ?_
        refine g_iload_n (pc := 164) F dL_law_164 rfl ?_
        refine g_iconst (pc := 165) (v := 2) F dL_law_165 (by decide) ?_
        refine g_iadd (pc := 166) F dL_law_166 ?_
        refine g_sld (pc := 167) (q := i + 2) F hX (by rw [show (2 : Int32) = nI 2 from rfl, nI_add]) (by omega) (by omega) dL_law_167 ?_
        refine g_aload_n (pc := 168) F dL_law_168 rfl ?_
        refine g_iload_n (pc := 169) F dL_law_169 rfl ?_
        refine g_iconst (pc := 170) (v := 3) F dL_law_170 (by decide) ?_
        refine g_iadd (pc := 171) F dL_law_171 ?_
        refine g_sld (pc := 172) (q := i + 3) F hX (by rw [show (3 : Int32) = nI 3 from rfl, nI_add]) (by omega) (by omega) dL_law_172 ?_
        refine g_aload_n (pc := 173) F dL_law_173 rfl ?_
        refine g_iload_n (pc := 174) F dL_law_174 rfl ?_
        refine g_iconst (pc := 175) (v := 4) F dL_law_175 (by decide) ?_
        refine g_iadd (pc := 176) F dL_law_176 ?_
        refine g_sld (pc := 177) (q := i + 4) F hX (by rw [show (4 : Int32) = nI 4 from rfl, nI_add]) (by omega) (by omega) dL_law_177 ?_
        refine g_aload_n (pc := 178) F dL_law_178 rfl ?_
        refine g_iload_n (pc := 179) F dL_law_179 rfl ?_
        refine g_iconst (pc := 180) (v := 5) F dL_law_180 (by decide) ?_
        refine g_iadd (pc := 181) F dL_law_181 ?_
        refine g_sld (pc := 182) (q := i + 5) F hX (by rw [show (5 : Int32) = nI 5 from rfl, nI_add]) (by omega) (by omega) dL_law_182 ?_
        refine g_callV (pc := 183) (rf2 := 3) (rl2 := 68) F cs_L_17 k224 rfl (by decide) (by rfl) (by rfl) (Nat.le_of_ble_eq_true (by rfl)) (by decide) dL_law_183 (c_X8_clock _ g M1 t (by rw [e225]; exact hi) ht pn j.1 (by rw [e224]; exact j.2.2.2.2.2.1) (Or.inl (by rw [e224]; exact j.2.2.2.2.1)) (xs (i + 1)) (xs (i + 2)) (xs (i + 3)) (xs (i + 4)) (xs (i + 5))) (fun v M2 hz => ?_)
        obtain ⟨rfl, q4⟩ := hz
        rw [e225] at q4
        rw [e225]
        refine g_icmp_eq (pc := 186) (tgt := 660) F dL_law_186 (by decide) (fun c186 => ?_) (fun c186 => ?_)
        · exact step M2 (J_mok j q3 q1 q2 q4)
        · exact absurd rfl c186
      | 1, _, hx31 =>
        refine g_tableIn (pc := 33) (tgt := 191) F dL_law_33 (by rw [hx31]; decide) (by rw [hx31]; decide) (by rw [hx31]; rfl) (by decide) ?_
        refine g_aload_n (pc := 191) F dL_law_191 rfl ?_
        refine g_aload_n (pc := 192) F dL_law_192 rfl ?_
        refine g_iload_n (pc := 193) F dL_law_193 rfl ?_
        refine g_iconst (pc := 194) (v := 1) F dL_law_194 (by decide) ?_
        refine g_iadd (pc := 195) F dL_law_195 ?_
        refine g_sld (pc := 196) (q := i + 1) F hX (by rw [show (1 : Int32) = nI 1 from rfl, nI_add]) (by omega) (by omega) dL_law_196 ?_
        refine g_callV (pc := 197) (rf2 := 4) (rl2 := 104) F cs_L_18 k0 rfl (by decide) (by rfl) (by rfl) (Nat.le_of_ble_eq_true (by rfl)) (by decide) dL_law_197 (c_X7_wind _ g M (AM M pn tn) jA jI (xs (i + 1))) (fun v M1 hz => ?_)
        obtain ⟨rfl, q1, q2, q3⟩ := hz
        have e225 : M1 225 = M 225 := q3 225 (by decide)
        have e224 : M1 224 = M 224 := q3 224 (by decide)
        refine g_aload_n (pc := 200) F dL_law_200 rfl ?_
        refine g_aload_n (pc := 201) F dL_law_201 rfl ?_
        refine g_iload_n (pc := 202) F dL_law_202 rfl ?_
        refine g_iconst (pc := 203) (v := 1) F dL_law_203 (by decide) ?_
        refine g_iadd (pc := 204) F dL_law_204 ?_
        refine g_sld (pc := 205) (q := i + 1) F hX (by rw [show (1 : Int32) = nI 1 from rfl, nI_add]) (by omega) (by omega) dL_law_205 ?_
        refine g_callV (pc := 206) (rf2 := 3) (rl2 := 68) F cs_L_22 k224 rfl (by decide) (by rfl) (by rfl) (Nat.le_of_ble_eq_true (by rfl)) (by decide) dL_law_206 (c_X8_wind _ g M1 t (by rw [e225]; exact hi) ht pn j.1 (by rw [e224]; exact j.2.2.2.2.2.1) (Or.inl (by rw [e224]; exact j.2.2.2.2.1)) (xs (i + 1))) (fun v M2 hz => ?_)
        obtain ⟨rfl, q4⟩ := hz
        rw [e225] at q4
        rw [e225]
        refine g_icmp_eq (pc := 209) (tgt := 660) F dL_law_209 (by decide) (fun c209 => ?_) (fun c209 => ?_)
        · exact step M2 (J_mok j q3 q1 q2 q4)
        · exact absurd rfl c209
      | 2, _, hx31 =>
        refine g_tableIn (pc := 33) (tgt := 214) F dL_law_33 (by rw [hx31]; decide) (by rw [hx31]; decide) (by rw [hx31]; rfl) (by decide) ?_
        refine g_aload_n (pc := 214) F dL_law_214 rfl ?_
        refine g_aload_n (pc := 215) F dL_law_215 rfl ?_
        refine g_iload_n (pc := 216) F dL_law_216 rfl ?_
        refine g_iconst (pc := 217) (v := 1) F dL_law_217 (by decide) ?_
        refine g_iadd (pc := 218) F dL_law_218 ?_
        refine g_sld (pc := 219) (q := i + 1) F hX (by rw [show (1 : Int32) = nI 1 from rfl, nI_add]) (by omega) (by omega) dL_law_219 ?_
        refine g_callV (pc := 220) (rf2 := 4) (rl2 := 104) F cs_L_23 k0 rfl (by decide) (by rfl) (by rfl) (Nat.le_of_ble_eq_true (by rfl)) (by decide) dL_law_220 (c_X7_tick _ g M (AM M pn tn) jA jI (xs (i + 1))) (fun v M1 hz => ?_)
        obtain ⟨rfl, q1, q2, q3⟩ := hz
        have e225 : M1 225 = M 225 := q3 225 (by decide)
        have e224 : M1 224 = M 224 := q3 224 (by decide)
        refine g_aload_n (pc := 223) F dL_law_223 rfl ?_
        refine g_aload_n (pc := 224) F dL_law_224 rfl ?_
        refine g_iload_n (pc := 225) F dL_law_225 rfl ?_
        refine g_iconst (pc := 226) (v := 1) F dL_law_226 (by decide) ?_
        refine g_iadd (pc := 227) F dL_law_227 ?_
        refine g_sld (pc := 228) (q := i + 1) F hX (by rw [show (1 : Int32) = nI 1 from rfl, nI_add]) (by omega) (by omega) dL_law_228 ?_
        refine g_callV (pc := 229) (rf2 := 6) (rl2 := 136) F cs_L_26 k224 rfl (by decide) (by rfl) (by rfl) (Nat.le_of_ble_eq_true (by rfl)) (by decide) dL_law_229 (c_X8_tick _ g M1 t (by rw [e225]; exact hi) ht pn j.1 (by rw [e224]; exact j.2.2.2.2.2.1) (Or.inl (by rw [e224]; exact j.2.2.2.2.1)) (xs (i + 1))) (fun v M2 hz => ?_)
        obtain ⟨rfl, q4⟩ := hz
        rw [e225] at q4
        rw [e225]
        refine g_icmp_eq (pc := 232) (tgt := 660) F dL_law_232 (by decide) (fun c232 => ?_) (fun c232 => ?_)
        · exact step M2 (J_mok j q3 q1 q2 q4)
        · exact absurd rfl c232
      | 3, _, hx31 =>
        refine g_tableIn (pc := 33) (tgt := 237) F dL_law_33 (by rw [hx31]; decide) (by rw [hx31]; decide) (by rw [hx31]; rfl) (by decide) ?_
        refine g_aload_n (pc := 237) F dL_law_237 rfl ?_
        refine g_aload_n (pc := 238) F dL_law_238 rfl ?_
        refine g_iload_n (pc := 239) F dL_law_239 rfl ?_
        refine g_iconst (pc := 240) (v := 1) F dL_law_240 (by decide) ?_
        refine g_iadd (pc := 241) F dL_law_241 ?_
        refine g_sld (pc := 242) (q := i + 1) F hX (by rw [show (1 : Int32) = nI 1 from rfl, nI_add]) (by omega) (by omega) dL_law_242 ?_
        refine g_callV (pc := 243) (rf2 := 4) (rl2 := 104) F cs_L_27 k0 rfl (by decide) (by rfl) (by rfl) (Nat.le_of_ble_eq_true (by rfl)) (by decide) dL_law_243 (c_X7_passenger _ g M (AM M pn tn) jA jI (xs (i + 1))) (fun v M1 hz => ?_)
        obtain ⟨rfl, q1, q2, q3⟩ := hz
        have e225 : M1 225 = M 225 := q3 225 (by decide)
        have e224 : M1 224 = M 224 := q3 224 (by decide)
        refine g_aload_n (pc := 246) F dL_law_246 rfl ?_
        refine g_aload_n (pc := 247) F dL_law_247 rfl ?_
        refine g_iload_n (pc := 248) F dL_law_248 rfl ?_
        refine g_iconst (pc := 249) (v := 1) F dL_law_249 (by decide) ?_
        refine g_iadd (pc := 250) F dL_law_250 ?_
        refine g_sld (pc := 251) (q := i + 1) F hX (by rw [show (1 : Int32) = nI 1 from rfl, nI_add]) (by omega) (by omega) dL_law_251 ?_
        refine g_callV (pc := 252) (rf2 := 2) (rl2 := 43) F cs_L_30 k224 rfl (by decide) (by rfl) (by rfl) (Nat.le_of_ble_eq_true (by rfl)) (by decide) dL_law_252 (c_X8_passenger _ g M1 t (by rw [e225]; exact hi) ht pn j.1 (by rw [e224]; exact j.2.2.2.2.2.1) (Or.inl (by rw [e224]; exact j.2.2.2.2.1)) (xs (i + 1))) (fun v M2 hz => ?_)
        obtain ⟨rfl, q4⟩ := hz
        rw [e225] at q4
        rw [e225]
        refine g_icmp_eq (pc := 255) (tgt := 660) F dL_law_255 (by decide) (fun c255 => ?_) (fun c255 => ?_)
        · exact step M2 (J_mok j q3 q1 q2 q4)
        · exact absurd rfl c255
      | 4, _, hx31 =>
        refine g_tableIn (pc := 33) (tgt := 260) F dL_law_33 (by rw [hx31]; decide) (by rw [hx31]; decide) (by rw [hx31]; rfl) (by decide) ?_
        refine g_aload_n (pc := 260) F dL_law_260 rfl ?_
        refine g_aload_n (pc := 261) F dL_law_261 rfl ?_
        refine g_iload_n (pc := 262) F dL_law_262 rfl ?_
        refine g_iconst (pc := 263) (v := 1) F dL_law_263 (by decide) ?_
        refine g_iadd (pc := 264) F dL_law_264 ?_
        refine g_sld (pc := 265) (q := i + 1) F hX (by rw [show (1 : Int32) = nI 1 from rfl, nI_add]) (by omega) (by omega) dL_law_265 ?_
        refine g_callV (pc := 266) (rf2 := 4) (rl2 := 104) F cs_L_31 k0 rfl (by decide) (by rfl) (by rfl) (Nat.le_of_ble_eq_true (by rfl)) (by decide) dL_law_266 (c_X7_group _ g M (AM M pn tn) jA jI (xs (i + 1))) (fun v M1 hz => ?_)
        obtain ⟨rfl, q1, q2, q3⟩ := hz
        have e225 : M1 225 = M 225 := q3 225 (by decide)
        have e224 : M1 224 = M 224 := q3 224 (by decide)
        refine g_aload_n (pc := 269) F dL_law_269 rfl ?_
        refine g_aload_n (pc := 270) F dL_law_270 rfl ?_
        refine g_iload_n (pc := 271) F dL_law_271 rfl ?_
        refine g_iconst (pc := 272) (v := 1) F dL_law_272 (by decide) ?_
        refine g_iadd (pc := 273) F dL_law_273 ?_
        refine g_sld (pc := 274) (q := i + 1) F hX (by rw [show (1 : Int32) = nI 1 from rfl, nI_add]) (by omega) (by omega) dL_law_274 ?_
        refine g_callV (pc := 275) (rf2 := 1) (rl2 := 22) F cs_L_34 k224 rfl (by decide) (by rfl) (by rfl) (Nat.le_of_ble_eq_true (by rfl)) (by decide) dL_law_275 (c_X8_group _ g M1 t (by rw [e225]; exact hi) ht pn j.1 (by rw [e224]; exact j.2.2.2.2.2.1) (Or.inl (by rw [e224]; exact j.2.2.2.2.1)) (xs (i + 1))) (fun v M2 hz => ?_)
        obtain ⟨rfl, q4⟩ := hz
        rw [e225] at q4
        rw [e225]
        refine g_icmp_eq (pc := 278) (tgt := 660) F dL_law_278 (by decide) (fun c278 => ?_) (fun c278 => ?_)
        · exact step M2 (J_mok j q3 q1 q2 q4)
        · exact absurd rfl c278
      | 5, _, hx31 =>
        refine g_tableIn (pc := 33) (tgt := 283) F dL_law_33 (by rw [hx31]; decide) (by rw [hx31]; decide) (by rw [hx31]; rfl) (by decide) ?_
        refine g_aload_n (pc := 283) F dL_law_283 rfl ?_
        refine g_aload_n (pc := 284) F dL_law_284 rfl ?_
        refine g_iload_n (pc := 285) F dL_law_285 rfl ?_
        refine g_iconst (pc := 286) (v := 1) F dL_law_286 (by decide) ?_
        refine g_iadd (pc := 287) F dL_law_287 ?_
        refine g_sld (pc := 288) (q := i + 1) F hX (by rw [show (1 : Int32) = nI 1 from rfl, nI_add]) (by omega) (by omega) dL_law_288 ?_
        refine g_aload_n (pc := 289) F dL_law_289 rfl ?_
        refine g_iload_n (pc := 290) F dL_law_290 rfl ?_
        refine g_iconst (pc := 291) (v := 2) F dL_law_291 (by decide) ?_
        refine g_iadd (pc := 292) F dL_law_292 ?_
        refine g_sld (pc := 293) (q := i + 2) F hX (by rw [show (2 : Int32) = nI 2 from rfl, nI_add]) (by omega) (by omega) dL_law_293 ?_
        refine g_callV (pc := 294) (rf2 := 4) (rl2 := 104) F cs_L_35 k0 rfl (by decide) (by rfl) (by rfl) (Nat.le_of_ble_eq_true (by rfl)) (by decide) dL_law_294 (c_X7_join _ g M (AM M pn tn) jA jI (xs (i + 1)) (xs (i + 2))) (fun v M1 hz => ?_)
        obtain ⟨rfl, q1, q2, q3⟩ := hz
        have e225 : M1 225 = M 225 := q3 225 (by decide)
        have e224 : M1 224 = M 224 := q3 224 (by decide)
        refine g_aload_n (pc := 297) F dL_law_297 rfl ?_
        refine g_aload_n (pc := 298) F dL_law_298 rfl ?_
        refine g_iload_n (pc := 299) F dL_law_299 rfl ?_
        refine g_iconst (pc := 300) (v := 1) F dL_law_300 (by decide) ?_
        refine g_iadd (pc := 301) F dL_law_301 ?_
        refine g_sld (pc := 302) (q := i + 1) F hX (by rw [show (1 : Int32) = nI 1 from rfl, nI_add]) (by omega) (by omega) dL_law_302 ?_
        refine g_aload_n (pc := 303) F dL_law_303 rfl ?_
        refine g_iload_n (pc := 304) F dL_law_304 rfl ?_
        refine g_iconst (pc := 305) (v := 2) F dL_law_305 (by decide) ?_
        refine g_iadd (pc := 306) F dL_law_306 ?_
        refine g_sld (pc := 307) (q := i + 2) F hX (by rw [show (2 : Int32) = nI 2 from rfl, nI_add]) (by omega) (by omega) dL_law_307 ?_
        refine g_callV (pc := 308) (rf2 := 2) (rl2 := 44) F cs_L_39 k224 rfl (by decide) (by rfl) (by rfl) (Nat.le_of_ble_eq_true (by rfl)) (by decide) dL_law_308 (c_X8_join _ g M1 t (by rw [e225]; exact hi) ht pn j.1 (by rw [e224]; exact j.2.2.2.2.2.1) (Or.inl (by rw [e224]; exact j.2.2.2.2.1)) (xs (i + 1)) (xs (i + 2))) (fun v M2 hz => ?_)
        obtain ⟨rfl, q4⟩ := hz
        rw [e225] at q4
        rw [e225]
        refine g_icmp_eq (pc := 311) (tgt := 660) F dL_law_311 (by decide) (fun c311 => ?_) (fun c311 => ?_)
        · exact step M2 (J_mok j q3 q1 q2 q4)
        · exact absurd rfl c311
      | 6, _, hx31 =>
        refine g_tableIn (pc := 33) (tgt := 316) F dL_law_33 (by rw [hx31]; decide) (by rw [hx31]; decide) (by rw [hx31]; rfl) (by decide) ?_
        refine g_aload_n (pc := 316) F dL_law_316 rfl ?_
        refine g_aload_n (pc := 317) F dL_law_317 rfl ?_
        refine g_iload_n (pc := 318) F dL_law_318 rfl ?_
        refine g_iconst (pc := 319) (v := 1) F dL_law_319 (by decide) ?_
        refine g_iadd (pc := 320) F dL_law_320 ?_
        refine g_sld (pc := 321) (q := i + 1) F hX (by rw [show (1 : Int32) = nI 1 from rfl, nI_add]) (by omega) (by omega) dL_law_321 ?_
        refine g_aload_n (pc := 322) F dL_law_322 rfl ?_
        refine g_iload_n (pc := 323) F dL_law_323 rfl ?_
        refine g_iconst (pc := 324) (v := 2) F dL_law_324 (by decide) ?_
        refine g_iadd (pc := 325) F dL_law_325 ?_
        refine g_sld (pc := 326) (q := i + 2) F hX (by rw [show (2 : Int32) = nI 2 from rfl, nI_add]) (by omega) (by omega) dL_law_326 ?_
        refine g_callV (pc := 327) (rf2 := 4) (rl2 := 104) F cs_L_40 k0 rfl (by decide) (by rfl) (by rfl) (Nat.le_of_ble_eq_true (by rfl)) (by decide) dL_law_327 (c_X7_leave _ g M (AM M pn tn) jA jI (xs (i + 1)) (xs (i + 2))) (fun v M1 hz => ?_)
        obtain ⟨rfl, q1, q2, q3⟩ := hz
        have e225 : M1 225 = M 225 := q3 225 (by decide)
        have e224 : M1 224 = M 224 := q3 224 (by decide)
        refine g_aload_n (pc := 330) F dL_law_330 rfl ?_
        refine g_aload_n (pc := 331) F dL_law_331 rfl ?_
        refine g_iload_n (pc := 332) F dL_law_332 rfl ?_
        refine g_iconst (pc := 333) (v := 1) F dL_law_333 (by decide) ?_
        refine g_iadd (pc := 334) F dL_law_334 ?_
        refine g_sld (pc := 335) (q := i + 1) F hX (by rw [show (1 : Int32) = nI 1 from rfl, nI_add]) (by omega) (by omega) dL_law_335 ?_
        refine g_aload_n (pc := 336) F dL_law_336 rfl ?_
        refine g_iload_n (pc := 337) F dL_law_337 rfl ?_
        refine g_iconst (pc := 338) (v := 2) F dL_law_338 (by decide) ?_
        refine g_iadd (pc := 339) F dL_law_339 ?_
        refine g_sld (pc := 340) (q := i + 2) F hX (by rw [show (2 : Int32) = nI 2 from rfl, nI_add]) (by omega) (by omega) dL_law_340 ?_
        refine g_callV (pc := 341) (rf2 := 2) (rl2 := 44) F cs_L_43 k224 rfl (by decide) (by rfl) (by rfl) (Nat.le_of_ble_eq_true (by rfl)) (by decide) dL_law_341 (c_X8_leave _ g M1 t (by rw [e225]; exact hi) ht pn j.1 (by rw [e224]; exact j.2.2.2.2.2.1) (Or.inl (by rw [e224]; exact j.2.2.2.2.1)) (xs (i + 1)) (xs (i + 2))) (fun v M2 hz => ?_)
        obtain ⟨rfl, q4⟩ := hz
        rw [e225] at q4
        rw [e225]
        refine g_icmp_eq (pc := 344) (tgt := 660) F dL_law_344 (by decide) (fun c344 => ?_) (fun c344 => ?_)
        · exact step M2 (J_mok j q3 q1 q2 q4)
        · exact absurd rfl c344
      | 7, _, hx31 =>
        refine g_tableIn (pc := 33) (tgt := 349) F dL_law_33 (by rw [hx31]; decide) (by rw [hx31]; decide) (by rw [hx31]; rfl) (by decide) ?_
        refine g_aload_n (pc := 349) F dL_law_349 rfl ?_
        refine g_aload_n (pc := 350) F dL_law_350 rfl ?_
        refine g_iload_n (pc := 351) F dL_law_351 rfl ?_
        refine g_iconst (pc := 352) (v := 1) F dL_law_352 (by decide) ?_
        refine g_iadd (pc := 353) F dL_law_353 ?_
        refine g_sld (pc := 354) (q := i + 1) F hX (by rw [show (1 : Int32) = nI 1 from rfl, nI_add]) (by omega) (by omega) dL_law_354 ?_
        refine g_aload_n (pc := 355) F dL_law_355 rfl ?_
        refine g_iload_n (pc := 356) F dL_law_356 rfl ?_
        refine g_iconst (pc := 357) (v := 2) F dL_law_357 (by decide) ?_
        refine g_iadd (pc := 358) F dL_law_358 ?_
        refine g_sld (pc := 359) (q := i + 2) F hX (by rw [show (2 : Int32) = nI 2 from rfl, nI_add]) (by omega) (by omega) dL_law_359 ?_
        refine g_callV (pc := 360) (rf2 := 2) (rl2 := 41) F cs_L_44 k0 rfl (by decide) (by rfl) (by rfl) (Nat.le_of_ble_eq_true (by rfl)) (by decide) dL_law_360 (c_X7_clockOf _ g M (AM M pn tn) jA jI (xs (i + 1)) (xs (i + 2))) (fun v M1 hz => ?_)
        obtain ⟨rfl, h1⟩ := hz
        rw [h1]
        refine g_aload_n (pc := 363) F dL_law_363 rfl ?_
        refine g_aload_n (pc := 364) F dL_law_364 rfl ?_
        refine g_iload_n (pc := 365) F dL_law_365 rfl ?_
        refine g_iconst (pc := 366) (v := 1) F dL_law_366 (by decide) ?_
        refine g_iadd (pc := 367) F dL_law_367 ?_
        refine g_sld (pc := 368) (q := i + 1) F hX (by rw [show (1 : Int32) = nI 1 from rfl, nI_add]) (by omega) (by omega) dL_law_368 ?_
        refine g_aload_n (pc := 369) F dL_law_369 rfl ?_
        refine g_iload_n (pc := 370) F dL_law_370 rfl ?_
        refine g_iconst (pc := 371) (v := 2) F dL_law_371 (by decide) ?_
        refine g_iadd (pc := 372) F dL_law_372 ?_
        refine g_sld (pc := 373) (q := i + 2) F hX (by rw [show (2 : Int32) = nI 2 from rfl, nI_add]) (by omega) (by omega) dL_law_373 ?_
        refine g_callV (pc := 374) (rf2 := 2) (rl2 := 43) F cs_L_47 k224 rfl (by decide) (by rfl) (by rfl) (Nat.le_of_ble_eq_true (by rfl)) (by decide) dL_law_374 (c_X8_clockOf _ g M t hi (xs (i + 1)) (xs (i + 2))) (fun v M2 hz => ?_)
        obtain ⟨rfl, h2⟩ := hz
        rw [h2]
        refine g_icmp_eq (pc := 377) (tgt := 660) F dL_law_377 (by decide) (fun c377 => ?_) (fun c377 => ?_)
        · exact step M ⟨pn, tn, j⟩
        · exact absurd rfl c377
      | 8, _, hx31 =>
        refine g_tableIn (pc := 33) (tgt := 382) F dL_law_33 (by rw [hx31]; decide) (by rw [hx31]; decide) (by rw [hx31]; rfl) (by decide) ?_
        refine g_aload_n (pc := 382) F dL_law_382 rfl ?_
        refine g_aload_n (pc := 383) F dL_law_383 rfl ?_
        refine g_iload_n (pc := 384) F dL_law_384 rfl ?_
        refine g_iconst (pc := 385) (v := 1) F dL_law_385 (by decide) ?_
        refine g_iadd (pc := 386) F dL_law_386 ?_
        refine g_sld (pc := 387) (q := i + 1) F hX (by rw [show (1 : Int32) = nI 1 from rfl, nI_add]) (by omega) (by omega) dL_law_387 ?_
        refine g_aload_n (pc := 388) F dL_law_388 rfl ?_
        refine g_iload_n (pc := 389) F dL_law_389 rfl ?_
        refine g_iconst (pc := 390) (v := 2) F dL_law_390 (by decide) ?_
        refine g_iadd (pc := 391) F dL_law_391 ?_
        refine g_sld (pc := 392) (q := i + 2) F hX (by rw [show (2 : Int32) = nI 2 from rfl, nI_add]) (by omega) (by omega) dL_law_392 ?_
        refine g_callV (pc := 393) (rf2 := 1) (rl2 := 28) F cs_L_48 k0 rfl (by decide) (by rfl) (by rfl) (Nat.le_of_ble_eq_true (by rfl)) (by decide) dL_law_393 (c_X7_mean _ g M (AM M pn tn) jA jI (xs (i + 1)) (xs (i + 2))) (fun v M1 hz => ?_)
        obtain ⟨rfl, h1⟩ := hz
        rw [h1]
        refine g_aload_n (pc := 396) F dL_law_396 rfl ?_
        refine g_aload_n (pc := 397) F dL_law_397 rfl ?_
        refine g_iload_n (pc := 398) F dL_law_398 rfl ?_
        refine g_iconst (pc := 399) (v := 1) F dL_law_399 (by decide) ?_
        refine g_iadd (pc := 400) F dL_law_400 ?_
        refine g_sld (pc := 401) (q := i + 1) F hX (by rw [show (1 : Int32) = nI 1 from rfl, nI_add]) (by omega) (by omega) dL_law_401 ?_
        refine g_aload_n (pc := 402) F dL_law_402 rfl ?_
        refine g_iload_n (pc := 403) F dL_law_403 rfl ?_
        refine g_iconst (pc := 404) (v := 2) F dL_law_404 (by decide) ?_
        refine g_iadd (pc := 405) F dL_law_405 ?_
        refine g_sld (pc := 406) (q := i + 2) F hX (by rw [show (2 : Int32) = nI 2 from rfl, nI_add]) (by omega) (by omega) dL_law_406 ?_
        refine g_callV (pc := 407) (rf2 := 4) (rl2 := 92) F cs_L_52 k224 rfl (by decide) (by rfl) (by rfl) (Nat.le_of_ble_eq_true (by rfl)) (by decide) dL_law_407 (c_X8_mean _ g M t hi (xs (i + 1)) (xs (i + 2))) (fun v M2 hz => ?_)
        obtain ⟨rfl, h2⟩ := hz
        rw [h2]
        refine g_lcmp (pc := 410) F dL_law_410 ?_
        refine g_if_eq (pc := 411) (tgt := 660) F dL_law_411 (by decide) (fun c411 => ?_) (fun c411 => ?_)
        · exact step M ⟨pn, tn, j⟩
        · exact absurd (lg_same _) c411
      | 9, _, hx31 =>
        refine g_tableIn (pc := 33) (tgt := 416) F dL_law_33 (by rw [hx31]; decide) (by rw [hx31]; decide) (by rw [hx31]; rfl) (by decide) ?_
        refine g_aload_n (pc := 416) F dL_law_416 rfl ?_
        refine g_aload_n (pc := 417) F dL_law_417 rfl ?_
        refine g_iload_n (pc := 418) F dL_law_418 rfl ?_
        refine g_iconst (pc := 419) (v := 1) F dL_law_419 (by decide) ?_
        refine g_iadd (pc := 420) F dL_law_420 ?_
        refine g_sld (pc := 421) (q := i + 1) F hX (by rw [show (1 : Int32) = nI 1 from rfl, nI_add]) (by omega) (by omega) dL_law_421 ?_
        refine g_aload_n (pc := 422) F dL_law_422 rfl ?_
        refine g_iload_n (pc := 423) F dL_law_423 rfl ?_
        refine g_iconst (pc := 424) (v := 2) F dL_law_424 (by decide) ?_
        refine g_iadd (pc := 425) F dL_law_425 ?_
        refine g_sld (pc := 426) (q := i + 2) F hX (by rw [show (2 : Int32) = nI 2 from rfl, nI_add]) (by omega) (by omega) dL_law_426 ?_
        refine g_callV (pc := 427) (rf2 := 3) (rl2 := 65) F cs_L_53 k0 rfl (by decide) (by rfl) (by rfl) (Nat.le_of_ble_eq_true (by rfl)) (by decide) dL_law_427 (c_X7_groupOf _ g M (AM M pn tn) jA jI (xs (i + 1)) (xs (i + 2))) (fun v M1 hz => ?_)
        obtain ⟨rfl, h1⟩ := hz
        rw [h1]
        refine g_aload_n (pc := 430) F dL_law_430 rfl ?_
        refine g_aload_n (pc := 431) F dL_law_431 rfl ?_
        refine g_iload_n (pc := 432) F dL_law_432 rfl ?_
        refine g_iconst (pc := 433) (v := 1) F dL_law_433 (by decide) ?_
        refine g_iadd (pc := 434) F dL_law_434 ?_
        refine g_sld (pc := 435) (q := i + 1) F hX (by rw [show (1 : Int32) = nI 1 from rfl, nI_add]) (by omega) (by omega) dL_law_435 ?_
        refine g_aload_n (pc := 436) F dL_law_436 rfl ?_
        refine g_iload_n (pc := 437) F dL_law_437 rfl ?_
        refine g_iconst (pc := 438) (v := 2) F dL_law_438 (by decide) ?_
        refine g_iadd (pc := 439) F dL_law_439 ?_
        refine g_sld (pc := 440) (q := i + 2) F hX (by rw [show (2 : Int32) = nI 2 from rfl, nI_add]) (by omega) (by omega) dL_law_440 ?_
        refine g_callV (pc := 441) (rf2 := 3) (rl2 := 67) F cs_L_56 k224 rfl (by decide) (by rfl) (by rfl) (Nat.le_of_ble_eq_true (by rfl)) (by decide) dL_law_441 (c_X8_groupOf _ g M t hi (xs (i + 1)) (xs (i + 2))) (fun v M2 hz => ?_)
        obtain ⟨rfl, h2⟩ := hz
        rw [h2]
        refine g_icmp_eq (pc := 444) (tgt := 660) F dL_law_444 (by decide) (fun c444 => ?_) (fun c444 => ?_)
        · exact step M ⟨pn, tn, j⟩
        · exact absurd rfl c444
      | 10, _, hx31 =>
        refine g_tableIn (pc := 33) (tgt := 449) F dL_law_33 (by rw [hx31]; decide) (by rw [hx31]; decide) (by rw [hx31]; rfl) (by decide) ?_
        refine g_aload_n (pc := 449) F dL_law_449 rfl ?_
        refine g_aload_n (pc := 450) F dL_law_450 rfl ?_
        refine g_iload_n (pc := 451) F dL_law_451 rfl ?_
        refine g_iconst (pc := 452) (v := 1) F dL_law_452 (by decide) ?_
        refine g_iadd (pc := 453) F dL_law_453 ?_
        refine g_sld (pc := 454) (q := i + 1) F hX (by rw [show (1 : Int32) = nI 1 from rfl, nI_add]) (by omega) (by omega) dL_law_454 ?_
        refine g_callV (pc := 455) (rf2 := 2) (rl2 := 47) F cs_L_57 k0 rfl (by decide) (by rfl) (by rfl) (Nat.le_of_ble_eq_true (by rfl)) (by decide) dL_law_455 (c_X7_next _ g M (AM M pn tn) jA jI (xs (i + 1))) (fun v M1 hz => ?_)
        obtain ⟨rfl, h1⟩ := hz
        rw [h1]
        refine g_aload_n (pc := 458) F dL_law_458 rfl ?_
        refine g_aload_n (pc := 459) F dL_law_459 rfl ?_
        refine g_iload_n (pc := 460) F dL_law_460 rfl ?_
        refine g_iconst (pc := 461) (v := 1) F dL_law_461 (by decide) ?_
        refine g_iadd (pc := 462) F dL_law_462 ?_
        refine g_sld (pc := 463) (q := i + 1) F hX (by rw [show (1 : Int32) = nI 1 from rfl, nI_add]) (by omega) (by omega) dL_law_463 ?_
        refine g_callV (pc := 464) (rf2 := 2) (rl2 := 43) F cs_L_60 k224 rfl (by decide) (by rfl) (by rfl) (Nat.le_of_ble_eq_true (by rfl)) (by decide) dL_law_464 (c_X8_next _ g M t hi (xs (i + 1))) (fun v M2 hz => ?_)
        obtain ⟨rfl, h2⟩ := hz
        rw [h2]
        refine g_icmp_eq (pc := 467) (tgt := 660) F dL_law_467 (by decide) (fun c467 => ?_) (fun c467 => ?_)
        · exact step M ⟨pn, tn, j⟩
        · exact absurd rfl c467
      | 11, _, hx31 =>
        refine g_tableIn (pc := 33) (tgt := 472) F dL_law_33 (by rw [hx31]; decide) (by rw [hx31]; decide) (by rw [hx31]; rfl) (by decide) ?_
        refine g_aload_n (pc := 472) F dL_law_472 rfl ?_
        refine g_aload_n (pc := 473) F dL_law_473 rfl ?_
        refine g_iload_n (pc := 474) F dL_law_474 rfl ?_
        refine g_iconst (pc := 475) (v := 1) F dL_law_475 (by decide) ?_
        refine g_iadd (pc := 476) F dL_law_476 ?_
        refine g_sld (pc := 477) (q := i + 1) F hX (by rw [show (1 : Int32) = nI 1 from rfl, nI_add]) (by omega) (by omega) dL_law_477 ?_
        refine g_aload_n (pc := 478) F dL_law_478 rfl ?_
        refine g_iload_n (pc := 479) F dL_law_479 rfl ?_
        refine g_iconst (pc := 480) (v := 2) F dL_law_480 (by decide) ?_
        refine g_iadd (pc := 481) F dL_law_481 ?_
        refine g_sld (pc := 482) (q := i + 2) F hX (by rw [show (2 : Int32) = nI 2 from rfl, nI_add]) (by omega) (by omega) dL_law_482 ?_
        refine g_aload_n (pc := 483) F dL_law_483 rfl ?_
        refine g_iload_n (pc := 484) F dL_law_484 rfl ?_
        refine g_iconst (pc := 485) (v := 3) F dL_law_485 (by decide) ?_
        refine g_iadd (pc := 486) F dL_law_486 ?_
        refine g_sld (pc := 487) (q := i + 3) F hX (by rw [show (3 : Int32) = nI 3 from rfl, nI_add]) (by omega) (by omega) dL_law_487 ?_
        refine g_callV (pc := 488) (rf2 := 3) (rl2 := 83) F cs_L_61 k0 rfl (by decide) (by rfl) (by rfl) (Nat.le_of_ble_eq_true (by rfl)) (by decide) dL_law_488 (c_X7_would _ g M (AM M pn tn) jA jI (xs (i + 1)) (xs (i + 2)) (xs (i + 3))) (fun v M1 hz => ?_)
        obtain ⟨rfl, q1, q3⟩ := hz
        have e225 : M1 225 = M 225 := q3 225 (by decide)
        have e224 : M1 224 = M 224 := q3 224 (by decide)
        refine g_aload_n (pc := 491) F dL_law_491 rfl ?_
        refine g_aload_n (pc := 492) F dL_law_492 rfl ?_
        refine g_iload_n (pc := 493) F dL_law_493 rfl ?_
        refine g_iconst (pc := 494) (v := 1) F dL_law_494 (by decide) ?_
        refine g_iadd (pc := 495) F dL_law_495 ?_
        refine g_sld (pc := 496) (q := i + 1) F hX (by rw [show (1 : Int32) = nI 1 from rfl, nI_add]) (by omega) (by omega) dL_law_496 ?_
        refine g_aload_n (pc := 497) F dL_law_497 rfl ?_
        refine g_iload_n (pc := 498) F dL_law_498 rfl ?_
        refine g_iconst (pc := 499) (v := 2) F dL_law_499 (by decide) ?_
        refine g_iadd (pc := 500) F dL_law_500 ?_
        refine g_sld (pc := 501) (q := i + 2) F hX (by rw [show (2 : Int32) = nI 2 from rfl, nI_add]) (by omega) (by omega) dL_law_501 ?_
        refine g_aload_n (pc := 502) F dL_law_502 rfl ?_
        refine g_iload_n (pc := 503) F dL_law_503 rfl ?_
        refine g_iconst (pc := 504) (v := 3) F dL_law_504 (by decide) ?_
        refine g_iadd (pc := 505) F dL_law_505 ?_
        refine g_sld (pc := 506) (q := i + 3) F hX (by rw [show (3 : Int32) = nI 3 from rfl, nI_add]) (by omega) (by omega) dL_law_506 ?_
        refine g_callV (pc := 507) (rf2 := 6) (rl2 := 136) F cs_L_65 k224 rfl (by decide) (by rfl) (by rfl) (Nat.le_of_ble_eq_true (by rfl)) (by decide) dL_law_507 (c_X8_would _ g M1 t (by rw [e225]; exact hi) ht (xs (i + 1)) (xs (i + 2)) (xs (i + 3))) (fun v M2 hz => ?_)
        obtain ⟨rfl, q4⟩ := hz
        rw [e225]
        refine g_icmp_eq (pc := 510) (tgt := 660) F dL_law_510 (by decide) (fun c510 => ?_) (fun c510 => ?_)
        · exact step M2 (J_back j q1 q3 q4)
        · exact absurd rfl c510
      | 12, _, hx31 =>
        refine g_tableIn (pc := 33) (tgt := 515) F dL_law_33 (by rw [hx31]; decide) (by rw [hx31]; decide) (by rw [hx31]; rfl) (by decide) ?_
        refine g_aload_n (pc := 515) F dL_law_515 rfl ?_
        refine g_aload_n (pc := 516) F dL_law_516 rfl ?_
        refine g_iload_n (pc := 517) F dL_law_517 rfl ?_
        refine g_iconst (pc := 518) (v := 1) F dL_law_518 (by decide) ?_
        refine g_iadd (pc := 519) F dL_law_519 ?_
        refine g_sld (pc := 520) (q := i + 1) F hX (by rw [show (1 : Int32) = nI 1 from rfl, nI_add]) (by omega) (by omega) dL_law_520 ?_
        refine g_callV (pc := 521) (rf2 := 3) (rl2 := 83) F cs_L_66 k0 rfl (by decide) (by rfl) (by rfl) (Nat.le_of_ble_eq_true (by rfl)) (by decide) dL_law_521 (c_X7_meets _ g M (AM M pn tn) jA jI (xs (i + 1))) (fun v M1 hz => ?_)
        obtain ⟨rfl, q1, q3⟩ := hz
        have e225 : M1 225 = M 225 := q3 225 (by decide)
        have e224 : M1 224 = M 224 := q3 224 (by decide)
        refine g_aload_n (pc := 524) F dL_law_524 rfl ?_
        refine g_aload_n (pc := 525) F dL_law_525 rfl ?_
        refine g_iload_n (pc := 526) F dL_law_526 rfl ?_
        refine g_iconst (pc := 527) (v := 1) F dL_law_527 (by decide) ?_
        refine g_iadd (pc := 528) F dL_law_528 ?_
        refine g_sld (pc := 529) (q := i + 1) F hX (by rw [show (1 : Int32) = nI 1 from rfl, nI_add]) (by omega) (by omega) dL_law_529 ?_
        refine g_callV (pc := 530) (rf2 := 5) (rl2 := 113) F cs_L_69 k224 rfl (by decide) (by rfl) (by rfl) (Nat.le_of_ble_eq_true (by rfl)) (by decide) dL_law_530 (c_X8_meets _ g M1 t (by rw [e225]; exact hi) ht (xs (i + 1))) (fun v M2 hz => ?_)
        obtain ⟨rfl, q4⟩ := hz
        rw [e225]
        refine g_icmp_eq (pc := 533) (tgt := 660) F dL_law_533 (by decide) (fun c533 => ?_) (fun c533 => ?_)
        · exact step M2 (J_back j q1 q3 q4)
        · exact absurd rfl c533
      | 13, _, hx31 =>
        refine g_tableIn (pc := 33) (tgt := 538) F dL_law_33 (by rw [hx31]; decide) (by rw [hx31]; decide) (by rw [hx31]; rfl) (by decide) ?_
        refine g_aload_n (pc := 538) F dL_law_538 rfl ?_
        refine g_callV (pc := 539) (rf2 := 3) (rl2 := 65) F cs_L_70 k0 rfl (by decide) (by rfl) (by rfl) (Nat.le_of_ble_eq_true (by rfl)) (by decide) dL_law_539 (c_X7_longer _ g M (AM M pn tn) jA jI ) (fun v M1 hz => ?_)
        obtain ⟨rfl, h1⟩ := hz
        rw [h1]
        refine g_aload_n (pc := 542) F dL_law_542 rfl ?_
        refine g_callV (pc := 543) (rf2 := 4) (rl2 := 92) F cs_L_74 k224 rfl (by decide) (by rfl) (by rfl) (Nat.le_of_ble_eq_true (by rfl)) (by decide) dL_law_543 (c_X8_longer _ g M t hi ) (fun v M2 hz => ?_)
        obtain ⟨rfl, h2⟩ := hz
        rw [h2]
        refine g_lcmp (pc := 546) F dL_law_546 ?_
        refine g_if_eq (pc := 547) (tgt := 660) F dL_law_547 (by decide) (fun c547 => ?_) (fun c547 => ?_)
        · exact step M ⟨pn, tn, j⟩
        · exact absurd (lg_same _) c547
      | 14, _, hx31 =>
        refine g_tableIn (pc := 33) (tgt := 552) F dL_law_33 (by rw [hx31]; decide) (by rw [hx31]; decide) (by rw [hx31]; rfl) (by decide) ?_
        refine g_aload_n (pc := 552) F dL_law_552 rfl ?_
        refine g_aload_n (pc := 553) F dL_law_553 rfl ?_
        refine g_iload_n (pc := 554) F dL_law_554 rfl ?_
        refine g_iconst (pc := 555) (v := 1) F dL_law_555 (by decide) ?_
        refine g_iadd (pc := 556) F dL_law_556 ?_
        refine g_sld (pc := 557) (q := i + 1) F hX (by rw [show (1 : Int32) = nI 1 from rfl, nI_add]) (by omega) (by omega) dL_law_557 ?_
        refine g_callV (pc := 558) (rf2 := 3) (rl2 := 65) F cs_L_75 k0 rfl (by decide) (by rfl) (by rfl) (Nat.le_of_ble_eq_true (by rfl)) (by decide) dL_law_558 (c_X7_count _ g M (AM M pn tn) jA jI (xs (i + 1))) (fun v M1 hz => ?_)
        obtain ⟨rfl, h1⟩ := hz
        rw [h1]
        refine g_aload_n (pc := 561) F dL_law_561 rfl ?_
        refine g_aload_n (pc := 562) F dL_law_562 rfl ?_
        refine g_iload_n (pc := 563) F dL_law_563 rfl ?_
        refine g_iconst (pc := 564) (v := 1) F dL_law_564 (by decide) ?_
        refine g_iadd (pc := 565) F dL_law_565 ?_
        refine g_sld (pc := 566) (q := i + 1) F hX (by rw [show (1 : Int32) = nI 1 from rfl, nI_add]) (by omega) (by omega) dL_law_566 ?_
        refine g_callV (pc := 567) (rf2 := 3) (rl2 := 65) F cs_L_78 k224 rfl (by decide) (by rfl) (by rfl) (Nat.le_of_ble_eq_true (by rfl)) (by decide) dL_law_567 (c_X8_count _ g M t hi pn tn j.2.2.2.2.2.1 j.2.2.2.2.2.2 (xs (i + 1))) (fun v M2 hz => ?_)
        obtain ⟨rfl, h2⟩ := hz
        rw [h2]
        refine g_icmp_eq (pc := 570) (tgt := 660) F dL_law_570 (by decide) (fun c570 => ?_) (fun c570 => ?_)
        · exact step M ⟨pn, tn, j⟩
        · exact absurd rfl c570
      | 15, _, hx31 =>
        refine g_tableIn (pc := 33) (tgt := 575) F dL_law_33 (by rw [hx31]; decide) (by rw [hx31]; decide) (by rw [hx31]; rfl) (by decide) ?_
        refine g_aload_n (pc := 575) F dL_law_575 rfl ?_
        refine g_callV (pc := 576) (rf2 := 4) (rl2 := 104) F cs_L_79 k0 rfl (by decide) (by rfl) (by rfl) (Nat.le_of_ble_eq_true (by rfl)) (by decide) dL_law_576 (c_X7_undo _ g M (AM M pn tn) jA jI ) (fun v M1 hz => ?_)
        obtain ⟨rfl, q1, q2, q3⟩ := hz
        have e225 : M1 225 = M 225 := q3 225 (by decide)
        have e224 : M1 224 = M 224 := q3 224 (by decide)
        refine g_aload_n (pc := 579) F dL_law_579 rfl ?_
        refine g_callV (pc := 580) (rf2 := 0) (rl2 := 0) F cs_L_83 k224 rfl (by decide) (by rfl) (by rfl) (Nat.le_of_ble_eq_true (by rfl)) (by decide) dL_law_580 (c_X8_undo _ g M1 pn j.1 (by rw [e224]; exact j.2.2.2.2.2.1)) (fun v M2 hz => ?_)
        obtain ⟨rfl, q4⟩ := hz
        have ju := J_undo j q3 q1 q2
        rw [q4]
        refine g_icmp_eq (pc := 583) (tgt := 660) F dL_law_583 (by decide) (fun c583 => ?_) (fun c583 => ?_)
        · exact step _ ju.1
        · exact absurd ju.2 c583
      | 16, _, hx31 =>
        refine g_tableIn (pc := 33) (tgt := 588) F dL_law_33 (by rw [hx31]; decide) (by rw [hx31]; decide) (by rw [hx31]; rfl) (by decide) ?_
        refine g_aload_n (pc := 588) F dL_law_588 rfl ?_
        refine g_aload_n (pc := 589) F dL_law_589 rfl ?_
        refine g_iload_n (pc := 590) F dL_law_590 rfl ?_
        refine g_iconst (pc := 591) (v := 1) F dL_law_591 (by decide) ?_
        refine g_iadd (pc := 592) F dL_law_592 ?_
        refine g_sld (pc := 593) (q := i + 1) F hX (by rw [show (1 : Int32) = nI 1 from rfl, nI_add]) (by omega) (by omega) dL_law_593 ?_
        refine g_callV (pc := 594) (rf2 := 1) (rl2 := 21) F cs_L_84 k0 rfl (by decide) (by rfl) (by rfl) (Nat.le_of_ble_eq_true (by rfl)) (by decide) dL_law_594 (c_X7_type _ g M (AM M pn tn) jA jI (xs (i + 1))) (fun v M1 hz => ?_)
        obtain ⟨rfl, q1, q2, q3⟩ := hz
        have e225 : M1 225 = M 225 := q3 225 (by decide)
        have e224 : M1 224 = M 224 := q3 224 (by decide)
        refine g_aload_n (pc := 597) F dL_law_597 rfl ?_
        refine g_aload_n (pc := 598) F dL_law_598 rfl ?_
        refine g_iload_n (pc := 599) F dL_law_599 rfl ?_
        refine g_iconst (pc := 600) (v := 1) F dL_law_600 (by decide) ?_
        refine g_iadd (pc := 601) F dL_law_601 ?_
        refine g_sld (pc := 602) (q := i + 1) F hX (by rw [show (1 : Int32) = nI 1 from rfl, nI_add]) (by omega) (by omega) dL_law_602 ?_
        refine g_callV (pc := 603) (rf2 := 1) (rl2 := 22) F cs_L_87 k224 rfl (by decide) (by rfl) (by rfl) (Nat.le_of_ble_eq_true (by rfl)) (by decide) dL_law_603 (c_X8_type _ g M1 tn j.2.1 (by rw [e224]; exact j.2.2.2.2.2.2) (xs (i + 1))) (fun v M2 hz => ?_)
        obtain ⟨rfl, q4⟩ := hz
        have ju := J_type j q3 (xs (i + 1)) q1 q2
        rw [q4]
        refine g_icmp_eq (pc := 606) (tgt := 660) F dL_law_606 (by decide) (fun c606 => ?_) (fun c606 => ?_)
        · exact step _ ju.1
        · exact absurd ju.2 c606
      | 17, _, hx31 =>
        refine g_tableIn (pc := 33) (tgt := 611) F dL_law_33 (by rw [hx31]; decide) (by rw [hx31]; decide) (by rw [hx31]; rfl) (by decide) ?_
        refine g_aload_n (pc := 611) F dL_law_611 rfl ?_
        refine g_callV (pc := 612) (rf2 := 0) (rl2 := 0) F cs_L_88 k0 rfl (by decide) (by rfl) (by rfl) (Nat.le_of_ble_eq_true (by rfl)) (by decide) dL_law_612 (c_X7_clearText _ g M (AM M pn tn) jA jI ) (fun v M1 hz => ?_)
        obtain ⟨rfl, q1, q2, q3⟩ := hz
        have e225 : M1 225 = M 225 := q3 225 (by decide)
        have e224 : M1 224 = M 224 := q3 224 (by decide)
        refine g_aload_n (pc := 615) F dL_law_615 rfl ?_
        refine g_callV (pc := 616) (rf2 := 0) (rl2 := 0) F cs_L_91 k224 rfl (by decide) (by rfl) (by rfl) (Nat.le_of_ble_eq_true (by rfl)) (by decide) dL_law_616 (c_X8_clearText _ g M1) (fun v M2 hz => ?_)
        obtain ⟨rfl, q4⟩ := hz
        have ju := J_clear j q3 q1 q2
        rw [q4]
        refine g_icmp_eq (pc := 619) (tgt := 660) F dL_law_619 (by decide) (fun c619 => ?_) (fun c619 => ?_)
        · exact step _ ju.1
        · exact absurd ju.2 c619
      | 18, _, hx31 =>
        refine g_tableIn (pc := 33) (tgt := 624) F dL_law_33 (by rw [hx31]; decide) (by rw [hx31]; decide) (by rw [hx31]; rfl) (by decide) ?_
        refine g_aload_n (pc := 624) F dL_law_624 rfl ?_
        refine g_aload_n (pc := 625) F dL_law_625 rfl ?_
        refine g_iload_n (pc := 626) F dL_law_626 rfl ?_
        refine g_iconst (pc := 627) (v := 1) F dL_law_627 (by decide) ?_
        refine g_iadd (pc := 628) F dL_law_628 ?_
        refine g_sld (pc := 629) (q := i + 1) F hX (by rw [show (1 : Int32) = nI 1 from rfl, nI_add]) (by omega) (by omega) dL_law_629 ?_
        refine g_callV (pc := 630) (rf2 := 6) (rl2 := 139) F cs_L_92 k0 rfl (by decide) (by rfl) (by rfl) (Nat.le_of_ble_eq_true (by rfl)) (by decide) dL_law_630 (c_X7_fault _ g M (AM M pn tn) jA jI (xs (i + 1))) (fun v M1 hz => ?_)
        obtain ⟨rfl, q1, q3⟩ := hz
        have e225 : M1 225 = M 225 := q3 225 (by decide)
        have e224 : M1 224 = M 224 := q3 224 (by decide)
        refine g_aload_n (pc := 633) F dL_law_633 rfl ?_
        refine g_aload_n (pc := 634) F dL_law_634 rfl ?_
        refine g_iload_n (pc := 635) F dL_law_635 rfl ?_
        refine g_iconst (pc := 636) (v := 1) F dL_law_636 (by decide) ?_
        refine g_iadd (pc := 637) F dL_law_637 ?_
        refine g_sld (pc := 638) (q := i + 1) F hX (by rw [show (1 : Int32) = nI 1 from rfl, nI_add]) (by omega) (by omega) dL_law_638 ?_
        refine g_callV (pc := 639) (rf2 := 9) (rl2 := 200) F cs_L_95 k224 rfl (by decide) (by rfl) (by rfl) (Nat.le_of_ble_eq_true (by rfl)) (by decide) dL_law_639 (c_X8_fault _ g M1 t (by rw [e225]; exact hi) ht pn j.1 (by rw [e224]; exact j.2.2.2.2.2.1) tn j.2.1 (by rw [e224]; exact j.2.2.2.2.2.2) (by rw [e224]; exact j.2.2.2.2.1) (xs (i + 1))) (fun v M2 hz => ?_)
        obtain ⟨rfl, q4⟩ := hz
        rw [AM_fr q3]
        refine g_icmp_eq (pc := 642) (tgt := 660) F dL_law_642 (by decide) (fun c642 => ?_) (fun c642 => ?_)
        · exact step M2 (J_bk j q1 q3 q4)
        · exact absurd rfl c642
      | 19, _, hx31 =>
        refine g_tableIn (pc := 33) (tgt := 647) F dL_law_33 (by rw [hx31]; decide) (by rw [hx31]; decide) (by rw [hx31]; rfl) (by decide) ?_
        refine g_aload_n (pc := 647) F dL_law_647 rfl ?_
        refine g_callV (pc := 648) (rf2 := 6) (rl2 := 139) F cs_L_96 k0 rfl (by decide) (by rfl) (by rfl) (Nat.le_of_ble_eq_true (by rfl)) (by decide) dL_law_648 (c_X7_play _ g M (AM M pn tn) jA jI ) (fun v M1 hz => ?_)
        obtain ⟨rfl, q1, q2, q3⟩ := hz
        have e225 : M1 225 = M 225 := q3 225 (by decide)
        have e224 : M1 224 = M 224 := q3 224 (by decide)
        refine g_aload_n (pc := 651) F dL_law_651 rfl ?_
        refine g_callV (pc := 652) (rf2 := 9) (rl2 := 200) F cs_L_99 k224 rfl (by decide) (by rfl) (by rfl) (Nat.le_of_ble_eq_true (by rfl)) (by decide) dL_law_652 (c_X8_play _ g M1 t (by rw [e225]; exact hi) ht pn j.1 (by rw [e224]; exact j.2.2.2.2.2.1) tn j.2.1 (by rw [e224]; exact j.2.2.2.2.2.2)) (fun v M2 hz => ?_)
        obtain ⟨rfl, q4⟩ := hz
        rw [AM_fr q3] at q4
        rw [AM_fr q3]
        refine g_icmp_eq (pc := 655) (tgt := 660) F dL_law_655 (by decide) (fun c655 => ?_) (fun c655 => ?_)
        · exact step M2 (J_pk j q3 q1 q2 q4)
        · exact absurd rfl c655
      | kx + 20, hkx, hx31 =>
        refine g_tableOut (pc := 33) (tgt := 660) F dL_law_33 (Or.inr (by rw [hx31, nI_toInt (by omega)]; omega)) (by decide) ?_
        exact step M ⟨pn, tn, j⟩
