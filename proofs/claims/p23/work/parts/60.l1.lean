/-! THE LAW'S OWN NUMBERS: four arrays, at the places 224 .. 227; they are a state S as the class has it; WM M S: the memory M with the law's arrays saying S -/
theorem kd224 : kd 224 = 9 := by decide
theorem kd225 : kd 225 = 11 := by decide
theorem kd226 : kd 226 = 12 := by decide
theorem kd227 : kd 227 = 13 := by decide
theorem setC_cw (S : SV) (i : Nat) : setC S i (cw S i) = S := by
  funext k
  unfold setC cw
  split
  · congr 1
    omega
  · rfl
theorem setC_upd (S : SV) (i : Nat) (w : Nat → Int32) {j : Nat} (hj : j < 15) (v : Int32) : setC S i (upd w j v) = upd (setC S i w) (4 + 15 * i + j) v := by
  funext k
  rw [upd_get]
  by_cases h : k = 4 + 15 * i + j
  · rw [if_pos h]
    unfold setC
    rw [if_pos (by omega), show k - (4 + 15 * i) = j by omega, upd_self]
  · rw [if_neg h]
    unfold setC
    by_cases h2 : 4 + 15 * i ≤ k ∧ k < 19 + 15 * i
    · rw [if_pos h2, if_pos h2, upd_ne _ _ (by omega)]
    · rw [if_neg h2, if_neg h2]
theorem setC_setC (S : SV) (i : Nat) (w w' : Nat → Int32) : setC (setC S i w) i w' = setC S i w' := by
  funext k
  unfold setC
  split <;> rfl
theorem setC_congr (S : SV) (i : Nat) {w w' : Nat → Int32} (h : ∀ j, j < 15 → w j = w' j) : setC S i w = setC S i w' := by
  funext k
  unfold setC
  split
  · exact h _ (by omega)
  · rfl
theorem setGr_gw (S : SV) (i : Nat) : setGr S i (gw S i) = S := by
  funext k
  unfold setGr gw
  split
  · congr 1
    omega
  · rfl
theorem setGr_upd (S : SV) (i : Nat) (w : Nat → Int32) {j : Nat} (hj : j < 4) (v : Int32) : setGr S i (upd w j v) = upd (setGr S i w) (94 + 4 * i + j) v := by
  funext k
  rw [upd_get]
  by_cases h : k = 94 + 4 * i + j
  · rw [if_pos h]
    unfold setGr
    rw [if_pos (by omega), show k - (94 + 4 * i) = j by omega, upd_self]
  · rw [if_neg h]
    unfold setGr
    by_cases h2 : 94 + 4 * i ≤ k ∧ k < 98 + 4 * i
    · rw [if_pos h2, if_pos h2, upd_ne _ _ (by omega)]
    · rw [if_neg h2, if_neg h2]
theorem upd_comm (f : Nat → Int32) {a b : Nat} (h : a ≠ b) (x y : Int32) : upd (upd f a x) b y = upd (upd f b y) a x := by
  funext j
  simp only [upd_get]
  by_cases h1 : j = a <;> by_cases h2 : j = b <;> simp_all
theorem upd_upd (f : Nat → Int32) (a : Nat) (x y : Int32) : upd (upd f a x) a y = upd f a y := by
  funext j
  simp only [upd_get]
  by_cases h1 : j = a <;> simp_all
theorem gapAt_congr {w w' : Nat → Int32} {p : Int32} (e : ∀ j, j < 5 → w' j = w j) (hp : w 0 = 2 ∨ ∃ j, j < 4 ∧ p = nI j) : gapAt w' p = gapAt w p := by
  unfold gapAt
  rw [e 0 (by decide), e 1 (by decide), e 2 (by decide), e 3 (by decide)]
  by_cases h : w 0 = 2
  · rw [if_pos h, if_pos h]
  · rw [if_neg h, if_neg h]
    obtain ⟨j, hj, rfl⟩ := hp.resolve_left h
    rw [nI_clamp (by omega)]
    exact e _ (by omega)
theorem NP4 {la b c d : Nat} (h : la ≠ 2) : NP la b c d ≤ 4 := by
  unfold NP
  rw [if_neg h]
  by_cases h1 : 0 < b <;> by_cases h2 : 0 < c <;> by_cases h3 : 0 < d <;> simp [h1, h2, h3]
/-! indices -/
theorem ix8 (i q : Nat) : (8 : Int32) * nI i + nI q = nI (8 * i + q) := by
  rw [show (8 : Int32) = nI 8 from rfl, nI_mul, nI_add]
theorem ix80 (i : Nat) : (8 : Int32) * nI i = nI (8 * i + 0) := by
  rw [show (8 : Int32) = nI 8 from rfl, nI_mul] <;> rfl
theorem ix7 (i q : Nat) : (7 : Int32) * nI i + nI q = nI (7 * i + q) := by
  rw [show (7 : Int32) = nI 7 from rfl, nI_mul, nI_add]
theorem ix70 (i : Nat) : (7 : Int32) * nI i = nI (7 * i + 0) := by
  rw [show (7 : Int32) = nI 7 from rfl, nI_mul] <;> rfl
theorem ix4 (i q : Nat) : (4 : Int32) * nI i + nI q = nI (4 * i + q) := by
  rw [show (4 : Int32) = nI 4 from rfl, nI_mul, nI_add]
theorem ix40 (i : Nat) : (4 : Int32) * nI i = nI (4 * i + 0) := by
  rw [show (4 : Int32) = nI 4 from rfl, nI_mul] <;> rfl
/-! the law's arrays as a state -/
def WM (M : Mem) (S : SV) : Mem := fun a n => if a = 224 then (if n < 4 then S n else M 224 n) else if a = 225 then (if n < 48 then S (4 + 15 * (n / 8) + n % 8) else M 225 n) else if a = 226 then (if n < 42 then S (4 + 15 * (n / 7) + (8 + n % 7)) else M 226 n) else if a = 227 then S (94 + n) else M a n
def LSt (M : Mem) : SV := fun k => if k < 4 then M 224 k else if k < 94 then (if (k - 4) % 15 < 8 then M 225 (8 * ((k - 4) / 15) + (k - 4) % 15) else M 226 (7 * ((k - 4) / 15) + ((k - 4) % 15 - 8))) else M 227 (k - 94)
theorem WM_lo (M : Mem) (S : SV) {a : Nat} (h : a < 224) : WM M S a = M a := by
  funext n
  unfold WM
  rw [if_neg (by omega), if_neg (by omega), if_neg (by omega), if_neg (by omega)]
theorem WM224 (M : Mem) (S : SV) (n : Nat) : WM M S 224 n = if n < 4 then S n else M 224 n := by
  unfold WM
  rw [if_pos rfl]
theorem WM225 (M : Mem) (S : SV) (n : Nat) : WM M S 225 n = if n < 48 then S (4 + 15 * (n / 8) + n % 8) else M 225 n := by
  unfold WM
  rw [if_neg (by decide), if_pos rfl]
theorem WM226 (M : Mem) (S : SV) (n : Nat) : WM M S 226 n = if n < 42 then S (4 + 15 * (n / 7) + (8 + n % 7)) else M 226 n := by
  unfold WM
  rw [if_neg (by decide), if_neg (by decide), if_pos rfl]
theorem WM227 (M : Mem) (S : SV) (n : Nat) : WM M S 227 n = S (94 + n) := by
  unfold WM
  rw [if_neg (by decide), if_neg (by decide), if_neg (by decide), if_pos rfl]
theorem WM_o (M : Mem) (S : SV) {a : Nat} (h4 : a ≠ 224) (h5 : a ≠ 225) (h6 : a ≠ 226) (h7 : a ≠ 227) : WM M S a = M a := by
  funext n
  unfold WM
  rw [if_neg h4, if_neg h5, if_neg h6, if_neg h7]
theorem WM_eq {M M2 : Mem} {S : SV} (h4 : ∀ n, M2 224 n = if n < 4 then S n else M 224 n) (h5 : ∀ n, M2 225 n = if n < 48 then S (4 + 15 * (n / 8) + n % 8) else M 225 n) (h6 : ∀ n, M2 226 n = if n < 42 then S (4 + 15 * (n / 7) + (8 + n % 7)) else M 226 n) (h7 : ∀ n, M2 227 n = S (94 + n)) (ho : ∀ a, a ≠ 224 → a ≠ 225 → a ≠ 226 → a ≠ 227 → M2 a = M a) : M2 = WM M S := by
  funext a n
  by_cases a4 : a = 224
  · subst a4; rw [h4, WM224]
  · by_cases a5 : a = 225
    · subst a5; rw [h5, WM225]
    · by_cases a6 : a = 226
      · subst a6; rw [h6, WM226]
      · by_cases a7 : a = 227
        · subst a7; rw [h7, WM227]
        · rw [ho a a4 a5 a6 a7, WM_o M S a4 a5 a6 a7]
theorem WM_g (M : Mem) (S : SV) {j : Nat} (h : j < 4) : WM M S 224 j = S j := by
  rw [WM224, if_pos h]
theorem WM_c (M : Mem) (S : SV) {i j : Nat} (hi : i < 6) (h : j < 8) : WM M S 225 (8 * i + j) = cw S i j := by
  rw [WM225, if_pos (by omega), show (8 * i + j) / 8 = i by omega, show (8 * i + j) % 8 = j by omega]
  rfl
theorem WM_v (M : Mem) (S : SV) {i j : Nat} (hi : i < 6) (h : j < 7) : WM M S 226 (7 * i + j) = cw S i (8 + j) := by
  rw [WM226, if_pos (by omega), show (7 * i + j) / 7 = i by omega, show (7 * i + j) % 7 = j by omega]
  rfl
theorem WM_q (M : Mem) (S : SV) (i j : Nat) : WM M S 227 (4 * i + j) = gw S i j := by
  rw [WM227, ← Nat.add_assoc]
  rfl
theorem WM_LS (M : Mem) : WM M (LSt M) = M := by
  refine (WM_eq (fun n => ?_) (fun n => ?_) (fun n => ?_) (fun n => ?_) (fun _ _ _ _ _ => rfl)).symm
  · by_cases h : n < 4
    · rw [if_pos h]; unfold LSt; rw [if_pos h]
    · rw [if_neg h]
  · by_cases h : n < 48
    · rw [if_pos h]; unfold LSt; rw [if_neg (by omega), if_pos (by omega), if_pos (by omega)]
      congr 1
      omega
    · rw [if_neg h]
  · by_cases h : n < 42
    · rw [if_pos h]; unfold LSt; rw [if_neg (by omega), if_pos (by omega), if_neg (by omega)]
      congr 1
      omega
    · rw [if_neg h]
  · unfold LSt; rw [if_neg (by omega), if_neg (by omega)]
    congr 1
    omega
/-- nothing of the law's changed: the same S -/
theorem WM_fr {M M2 : Mem} {S : SV} (h : frC (WM M S) M2) : M2 = WM M2 S := by
  refine WM_eq (fun n => ?_) (fun n => ?_) (fun n => ?_) (fun n => ?_) (fun _ _ _ _ _ => rfl)
  · by_cases hn : n < 4
    · rw [if_pos hn, h 224 (by decide), WM224, if_pos hn]
    · rw [if_neg hn]
  · by_cases hn : n < 48
    · rw [if_pos hn, h 225 (by decide), WM225, if_pos hn]
    · rw [if_neg hn]
  · by_cases hn : n < 42
    · rw [if_pos hn, h 226 (by decide), WM226, if_pos hn]
    · rw [if_neg hn]
  · rw [h 227 (by decide), WM227]
theorem WM_gs (M : Mem) (S : SV) {j : Nat} (h : j < 4) (v : Int32) : upd2 (WM M S) 224 j v = WM M (upd S j v) := by
  refine WM_eq (fun n => ?_) (fun n => ?_) (fun n => ?_) (fun n => ?_) (fun a a4 a5 a6 a7 => ?_)
  · rw [upd2_get, if_pos rfl, upd_get, WM224]
    by_cases hn : n = j
    · rw [if_pos hn, if_pos (by omega), if_pos hn]
    · rw [if_neg hn, if_neg hn]
  · rw [upd2_k _ _ _ (by decide), upd_ne _ _ (by omega), WM225]
  · rw [upd2_k _ _ _ (by decide), upd_ne _ _ (by omega), WM226]
  · rw [upd2_k _ _ _ (by decide), upd_ne _ _ (by omega), WM227]
  · rw [upd2_k _ _ _ a4, WM_o M S a4 a5 a6 a7]
theorem WM_cs (M : Mem) (S : SV) {i j : Nat} (hi : i < 6) (h : j < 8) (v : Int32) : upd2 (WM M S) 225 (8 * i + j) v = WM M (upd S (4 + 15 * i + j) v) := by
  refine WM_eq (fun n => ?_) (fun n => ?_) (fun n => ?_) (fun n => ?_) (fun a a4 a5 a6 a7 => ?_)
  · rw [upd2_k _ _ _ (by decide), WM224]
    by_cases hn : n < 4
    · rw [if_pos hn, if_pos hn, upd_ne _ _ (by omega)]
    · rw [if_neg hn, if_neg hn]
  · rw [upd2_get, if_pos rfl, WM225]
    by_cases hn : n = 8 * i + j
    · rw [if_pos hn, if_pos (by omega), upd_get, if_pos (by omega)]
    · rw [if_neg hn]
      by_cases hn4 : n < 48
      · rw [if_pos hn4, if_pos hn4, upd_ne _ _ (by omega)]
      · rw [if_neg hn4, if_neg hn4]
  · rw [upd2_k _ _ _ (by decide), WM226]
    by_cases hn : n < 42
    · rw [if_pos hn, if_pos hn, upd_ne _ _ (by omega)]
    · rw [if_neg hn, if_neg hn]
  · rw [upd2_k _ _ _ (by decide), upd_ne _ _ (by omega), WM227]
  · rw [upd2_k _ _ _ a5, WM_o M S a4 a5 a6 a7]
theorem WM_vs (M : Mem) (S : SV) {i j : Nat} (hi : i < 6) (h : j < 7) (v : Int32) : upd2 (WM M S) 226 (7 * i + j) v = WM M (upd S (4 + 15 * i + (8 + j)) v) := by
  refine WM_eq (fun n => ?_) (fun n => ?_) (fun n => ?_) (fun n => ?_) (fun a a4 a5 a6 a7 => ?_)
  · rw [upd2_k _ _ _ (by decide), WM224]
    by_cases hn : n < 4
    · rw [if_pos hn, if_pos hn, upd_ne _ _ (by omega)]
    · rw [if_neg hn, if_neg hn]
  · rw [upd2_k _ _ _ (by decide), WM225]
    by_cases hn : n < 48
    · rw [if_pos hn, if_pos hn, upd_ne _ _ (by omega)]
    · rw [if_neg hn, if_neg hn]
  · rw [upd2_get, if_pos rfl, WM226]
    by_cases hn : n = 7 * i + j
    · rw [if_pos hn, if_pos (by omega), upd_get, if_pos (by omega)]
    · rw [if_neg hn]
      by_cases hn4 : n < 42
      · rw [if_pos hn4, if_pos hn4, upd_ne _ _ (by omega)]
      · rw [if_neg hn4, if_neg hn4]
  · rw [upd2_k _ _ _ (by decide), upd_ne _ _ (by omega), WM227]
  · rw [upd2_k _ _ _ a6, WM_o M S a4 a5 a6 a7]
theorem WM_qs (M : Mem) (S : SV) {i j : Nat} (hi : i < 4) (h : j < 4) (v : Int32) : upd2 (WM M S) 227 (4 * i + j) v = WM M (upd S (94 + 4 * i + j) v) := by
  refine WM_eq (fun n => ?_) (fun n => ?_) (fun n => ?_) (fun n => ?_) (fun a a4 a5 a6 a7 => ?_)
  · rw [upd2_k _ _ _ (by decide), WM224]
    by_cases hn : n < 4
    · rw [if_pos hn, if_pos hn, upd_ne _ _ (by omega)]
    · rw [if_neg hn, if_neg hn]
  · rw [upd2_k _ _ _ (by decide), WM225]
    by_cases hn : n < 48
    · rw [if_pos hn, if_pos hn, upd_ne _ _ (by omega)]
    · rw [if_neg hn, if_neg hn]
  · rw [upd2_k _ _ _ (by decide), WM226]
    by_cases hn : n < 42
    · rw [if_pos hn, if_pos hn, upd_ne _ _ (by omega)]
    · rw [if_neg hn, if_neg hn]
  · rw [upd2_get, if_pos rfl, WM227]
    by_cases hn : n = 4 * i + j
    · rw [if_pos hn, upd_get, if_pos (by omega)]
    · rw [if_neg hn, upd_ne _ _ (by omega)]
  · rw [upd2_k _ _ _ a7, WM_o M S a4 a5 a6 a7]
section GLAWR
variable {X : XT} {g : Gm} {cc : ByteArray} {nL : Nat} {own : String} {rf rl : Nat} {M : Mem} {S : SV} {pc : Nat} {lv : List (Option Value)} {st : List Value}
theorem g_gld (F : FX X g cc nL own rf rl) {j : Nat} {x : Int32} (hx : x = nI j) (hj : j < 4) (hd : decode cc pc = .ok (.iaload, 1)) (k : G X g nL (WM M S) (pc + 1) lv (.int (S j) :: st)) : G X g nL (WM M S) pc lv (.int x :: .ref (ad g 224) :: st) :=
  g_iald (q := j) F kd224 rfl hx hj hd (by rw [WM_g M S hj]; exact k)
theorem g_cld (F : FX X g cc nL own rf rl) {i j : Nat} {x : Int32} (hx : x = nI (8 * i + j)) (hi : i < 6) (hj : j < 8) (hd : decode cc pc = .ok (.iaload, 1)) (k : G X g nL (WM M S) (pc + 1) lv (.int (cw S i j) :: st)) : G X g nL (WM M S) pc lv (.int x :: .ref (ad g 225) :: st) :=
  g_iald (q := 8 * i + j) F kd225 rfl hx (by omega) hd (by rw [WM_c M S hi hj]; exact k)
theorem g_vld (F : FX X g cc nL own rf rl) {i j : Nat} {x : Int32} (hx : x = nI (7 * i + j)) (hi : i < 6) (hj : j < 7) (hd : decode cc pc = .ok (.iaload, 1)) (k : G X g nL (WM M S) (pc + 1) lv (.int (cw S i (8 + j)) :: st)) : G X g nL (WM M S) pc lv (.int x :: .ref (ad g 226) :: st) :=
  g_iald (q := 7 * i + j) F kd226 rfl hx (by omega) hd (by rw [WM_v M S hi hj]; exact k)
theorem g_qld (F : FX X g cc nL own rf rl) {i j : Nat} {x : Int32} (hx : x = nI (4 * i + j)) (hi : i < 4) (hj : j < 4) (hd : decode cc pc = .ok (.iaload, 1)) (k : G X g nL (WM M S) (pc + 1) lv (.int (gw S i j) :: st)) : G X g nL (WM M S) pc lv (.int x :: .ref (ad g 227) :: st) :=
  g_iald (q := 4 * i + j) F kd227 rfl hx (by omega) hd (by rw [WM_q M S i j]; exact k)
theorem g_gst (F : FX X g cc nL own rf rl) {j : Nat} {x v : Int32} (hx : x = nI j) (hj : j < 4) (hd : decode cc pc = .ok (.iastore, 1)) (k : G X g nL (WM M (upd S j v)) (pc + 1) lv st) : G X g nL (WM M S) pc lv (.int v :: .int x :: .ref (ad g 224) :: st) :=
  g_iast (q := j) F kd224 rfl hx hj hd (by rw [WM_gs M S hj]; exact k)
theorem g_cst (F : FX X g cc nL own rf rl) {i j : Nat} {x v : Int32} (hx : x = nI (8 * i + j)) (hi : i < 6) (hj : j < 8) (hd : decode cc pc = .ok (.iastore, 1)) (k : G X g nL (WM M (upd S (4 + 15 * i + j) v)) (pc + 1) lv st) : G X g nL (WM M S) pc lv (.int v :: .int x :: .ref (ad g 225) :: st) :=
  g_iast (q := 8 * i + j) F kd225 rfl hx (by omega) hd (by rw [WM_cs M S hi hj]; exact k)
theorem g_vst (F : FX X g cc nL own rf rl) {i j : Nat} {x v : Int32} (hx : x = nI (7 * i + j)) (hi : i < 6) (hj : j < 7) (hd : decode cc pc = .ok (.iastore, 1)) (k : G X g nL (WM M (upd S (4 + 15 * i + (8 + j)) v)) (pc + 1) lv st) : G X g nL (WM M S) pc lv (.int v :: .int x :: .ref (ad g 226) :: st) :=
  g_iast (q := 7 * i + j) F kd226 rfl hx (by omega) hd (by rw [WM_vs M S hi hj]; exact k)
theorem g_qst (F : FX X g cc nL own rf rl) {i j : Nat} {x v : Int32} (hx : x = nI (4 * i + j)) (hi : i < 4) (hj : j < 4) (hd : decode cc pc = .ok (.iastore, 1)) (k : G X g nL (WM M (upd S (94 + 4 * i + j) v)) (pc + 1) lv st) : G X g nL (WM M S) pc lv (.int v :: .int x :: .ref (ad g 227) :: st) :=
  g_iast (q := 4 * i + j) F kd227 rfl hx (by omega) hd (by rw [WM_qs M S hi hj]; exact k)
end GLAWR
/-! small things -/
theorem low31 (x : Int32) : ∃ k, k < 2147483648 ∧ x &&& 2147483647 = nI k := by
  refine ⟨(x &&& 2147483647).toBitVec.toNat, ?_, ?_⟩
  · have h : (x &&& 2147483647).toBitVec.toNat = x.toBitVec.toNat &&& 2147483647 := by
      rw [Int32.toBitVec_and, BitVec.toNat_and]
      rfl
    rw [h]
    exact Nat.lt_succ_of_le Nat.and_le_right
  · apply Int32.toBitVec_inj.mp
    show (x &&& 2147483647).toBitVec = (Int32.ofNat (x &&& 2147483647).toBitVec.toNat).toBitVec
    rw [Int32.toBitVec_ofNat', BitVec.ofNat_toNat, BitVec.setWidth_eq]
theorem bit_1 : ∀ l, l < 64 → nI l &&& 1 = nI (l % 2) ∧ nI l >>> ((1 : Int32) &&& 31) = nI (l / 2) ∧ pop6 l = l % 2 + pop6 (l / 2) := by decide +kernel
theorem LI_many {w : Nat → Int32} {la b c d a : Nat} (h : LI w la a b c d) : (la = 2 → NP la b c d = b + 1) ∧ (la ≠ 2 → (b = 0 → NP la b c d = 1) ∧ (b ≠ 0 → c = 0 → NP la b c d = 2) ∧ (b ≠ 0 → c ≠ 0 → d = 0 → NP la b c d = 3) ∧ (b ≠ 0 → c ≠ 0 → d ≠ 0 → NP la b c d = 4)) := by
  obtain ⟨-, -, -, -, -, -, -, -, -, -, -, -, q2⟩ := h
  refine ⟨fun e => ?_, fun e => ?_⟩
  · unfold NP
    rw [if_pos e]
  · obtain ⟨c1, c2⟩ := q2 e
    have f : ∀ n : Nat, (if 0 < n then 1 else 0) = if n = 0 then 0 else 1 := by
      intro n
      by_cases hn : n = 0
      · rw [if_pos hn, if_neg (by omega)]
      · rw [if_neg hn, if_pos (by omega)]
    have hN : NP la b c d = 1 + (if b = 0 then 0 else 1) + (if c = 0 then 0 else 1) + (if d = 0 then 0 else 1) := by
      unfold NP
      rw [if_neg e, f, f, f]
    rw [hN]
    refine ⟨fun hb => ?_, fun hb hc => ?_, fun hb hc hd => ?_, fun hb hc hd => ?_⟩
    · rw [if_pos hb, if_pos (c1 hb), if_pos (c2 (c1 hb))]
    · rw [if_neg hb, if_pos hc, if_pos (c2 hc)]
    · rw [if_neg hb, if_neg hc, if_pos hd]
    · rw [if_neg hb, if_neg hc, if_neg hd]
theorem nI_z {n : Nat} (h : n < 2147483648) : nI n = 0 ↔ n = 0 := by rw [nI0, nI_inj h (by decide)]
theorem ix8p (i p : Nat) : (8 : Int32) * nI i + 1 + nI p = nI (8 * i + (1 + p)) := by
  rw [show (8 : Int32) = nI 8 from rfl, nI_mul, show (1 : Int32) = nI 1 from rfl, nI_add, nI_add, Nat.add_assoc]
set_option maxHeartbeats 4000000 in
set_option maxRecDepth 100000 in
theorem c_L_low (l : Launch) (g : Gm) (M : Mem) (x : Int32) (N : Nat) (hN : 0 < N) (hN2 : N < 2147483648) : Cn l yL_low cL_low 2 (some .int) 0 0 g [.int x, .int (nI N)] M (fun v M2 => (∃ q, q < N ∧ v = some (.int (nI q))) ∧ M2 = M) := by
  refine Cn.intro (lv0 := [some (.int x), some (.int (nI N))]) 0 (by decide +kernel) (Nat.le_of_ble_eq_true rfl) rfl (fun X F r => ?_)
  obtain ⟨k, hk, e⟩ := low31 x
  refine g_iload_n (pc := 0) F dL_low_0 rfl ?_
  refine g_ldc (pc := 1) F wk_L_8 dL_low_1 ?_
  refine g_iand (pc := 3) F dL_low_3 ?_
  refine g_iload_n (pc := 4) F dL_low_4 rfl ?_
  refine g_irem (pc := 5) F (nI_ne0 hN hN2) dL_low_5 ?_
  refine g_iret (pc := 6) F r dL_low_6 ?_
  exact ⟨⟨k % N, Nat.mod_lt _ hN, by rw [e, jrem_nI hk hN hN2]⟩, rfl⟩

set_option maxHeartbeats 4000000 in
set_option maxRecDepth 100000 in
theorem c_L_rest (l : Launch) (g : Gm) (M : Mem) (S : SV) (i : Nat) (hi : i < 6) : Cn l yL_rest cL_rest 2 (some .int) 0 0 g [.ref (ad g 225), .int (nI i)] (WM M S) (fun v M2 => v = some (.int (restW S i)) ∧ M2 = WM M S) := by
  refine Cn.intro (lv0 := [some (.ref (ad g 225)), some (.int (nI i))]) 0 (by decide +kernel) (Nat.le_of_ble_eq_true rfl) rfl (fun X F r => ?_)
  refine g_aload_n (pc := 0) F dL_rest_0 rfl ?_
  refine g_bipush (pc := 1) (v := 8) F dL_rest_1 (by decide) ?_
  refine g_iload_n (pc := 3) F dL_rest_3 rfl ?_
  refine g_imul (pc := 4) F dL_rest_4 ?_
  refine g_bipush (pc := 5) (v := 6) F dL_rest_5 (by decide) ?_
  refine g_iadd (pc := 7) F dL_rest_7 ?_
  refine g_cld (pc := 8) (i := i) (j := 6) F (ix8 i 6) (by omega) (by decide) dL_rest_8 ?_
  refine g_aload_n (pc := 9) F dL_rest_9 rfl ?_
  refine g_bipush (pc := 10) (v := 8) F dL_rest_10 (by decide) ?_
  refine g_iload_n (pc := 12) F dL_rest_12 rfl ?_
  refine g_imul (pc := 13) F dL_rest_13 ?_
  refine g_bipush (pc := 14) (v := 7) F dL_rest_14 (by decide) ?_
  refine g_iadd (pc := 16) F dL_rest_16 ?_
  refine g_cld (pc := 17) (i := i) (j := 7) F (ix8 i 7) (by omega) (by decide) dL_rest_17 ?_
  refine g_isub (pc := 18) F dL_rest_18 ?_
  refine g_iret (pc := 19) F r dL_rest_19 ?_
  exact ⟨rfl, rfl⟩

set_option maxHeartbeats 4000000 in
set_option maxRecDepth 100000 in
theorem c_L_many (l : Launch) (g : Gm) (M : Mem) (S : SV) (i : Nat) (hi : i < 6) (la a b c d : Nat) (hL : LI (cw S i) la a b c d) : Cn l yL_many cL_many 3 (some .int) 0 0 g [.ref (ad g 225), .int (nI i)] (WM M S) (fun v M2 => v = some (.int (nI (NP la b c d))) ∧ M2 = WM M S) := by
  refine Cn.intro (lv0 := [some (.ref (ad g 225)), some (.int (nI i)), none]) 1 (by decide +kernel) (Nat.le_of_ble_eq_true rfl) rfl (fun X F r => ?_)
  have hB := hL.2.2.2.2.2.2.2.2.1
  have hC := hL.2.2.2.2.2.2.2.2.2.1
  have hD := hL.2.2.2.2.2.2.2.2.2.2.1
  refine g_bipush (pc := 0) (v := 8) F dL_many_0 (by decide) ?_
  refine g_iload_n (pc := 2) F dL_many_2 rfl ?_
  refine g_imul (pc := 3) F dL_many_3 ?_
  refine g_istore_n (pc := 4) F dL_many_4 (by decide) rfl ?_
  refine g_aload_n (pc := 5) F dL_many_5 rfl ?_
  refine g_iload_n (pc := 6) F dL_many_6 rfl ?_
  refine g_cld (pc := 7) (i := i) (j := 0) F (ix80 i) (by omega) (by decide) dL_many_7 ?_
  refine g_iconst (pc := 8) (v := 2) F dL_many_8 (by decide) ?_
  refine g_icmp_ne (pc := 9) (tgt := 22) F dL_many_9 (by decide) (fun c9 => ?_) (fun c9 => ?_)
  · refine g_aload_n (pc := 22) F dL_many_22 rfl ?_
    refine g_iload_n (pc := 23) F dL_many_23 rfl ?_
    refine g_iconst (pc := 24) (v := 2) F dL_many_24 (by decide) ?_
    refine g_iadd (pc := 25) F dL_many_25 ?_
    refine g_cld (pc := 26) (i := i) (j := 2) F (ix8 i 2) (by omega) (by decide) dL_many_26 ?_
    refine g_if_ne (pc := 27) (tgt := 34) F dL_many_27 (by decide) (fun c27 => ?_) (fun c27 => ?_)
    · refine g_aload_n (pc := 34) F dL_many_34 rfl ?_
      refine g_iload_n (pc := 35) F dL_many_35 rfl ?_
      refine g_iconst (pc := 36) (v := 3) F dL_many_36 (by decide) ?_
      refine g_iadd (pc := 37) F dL_many_37 ?_
      refine g_cld (pc := 38) (i := i) (j := 3) F (ix8 i 3) (by omega) (by decide) dL_many_38 ?_
      refine g_if_ne (pc := 39) (tgt := 46) F dL_many_39 (by decide) (fun c39 => ?_) (fun c39 => ?_)
      · refine g_aload_n (pc := 46) F dL_many_46 rfl ?_
        refine g_iload_n (pc := 47) F dL_many_47 rfl ?_
        refine g_iconst (pc := 48) (v := 4) F dL_many_48 (by decide) ?_
        refine g_iadd (pc := 49) F dL_many_49 ?_
        refine g_cld (pc := 50) (i := i) (j := 4) F (ix8 i 4) (by omega) (by decide) dL_many_50 ?_
        refine g_if_ne (pc := 51) (tgt := 58) F dL_many_51 (by decide) (fun c51 => ?_) (fun c51 => ?_)
        · refine g_iconst (pc := 58) (v := 4) F dL_many_58 (by decide) ?_
          refine g_iret (pc := 59) F r dL_many_59 ?_
          have hl : la ≠ 2 := fun e => c9 ((LI_law2 hL).mpr e)
          have H := (LI_many hL).2 hl
          have hb : b ≠ 0 := fun e => c27 (by rw [show cw S i 2 = nI b from hL.2.2.1]; exact (nI_z (n := b) (by omega)).mpr e)
          have hc : c ≠ 0 := fun e => c39 (by rw [show cw S i 3 = nI c from hL.2.2.2.1]; exact (nI_z (n := c) (by omega)).mpr e)
          have hd : d ≠ 0 := fun e => c51 (by rw [show cw S i 4 = nI d from hL.2.2.2.2.1]; exact (nI_z (n := d) (by omega)).mpr e)
          exact ⟨by rw [H.2.2.2 hb hc hd] <;> rfl, rfl⟩
        · refine g_iconst (pc := 54) (v := 3) F dL_many_54 (by decide) ?_
          refine g_goto (pc := 55) (tgt := 59) F dL_many_55 (by decide) ?_
          refine g_iret (pc := 59) F r dL_many_59 ?_
          have hl : la ≠ 2 := fun e => c9 ((LI_law2 hL).mpr e)
          have H := (LI_many hL).2 hl
          have hb : b ≠ 0 := fun e => c27 (by rw [show cw S i 2 = nI b from hL.2.2.1]; exact (nI_z (n := b) (by omega)).mpr e)
          have hc : c ≠ 0 := fun e => c39 (by rw [show cw S i 3 = nI c from hL.2.2.2.1]; exact (nI_z (n := c) (by omega)).mpr e)
          have hd : d = 0 := (nI_z (n := d) (by omega)).mp (by rw [← show cw S i 4 = nI d from hL.2.2.2.2.1]; exact c51)
          exact ⟨by rw [H.2.2.1 hb hc hd] <;> rfl, rfl⟩
      · refine g_iconst (pc := 42) (v := 2) F dL_many_42 (by decide) ?_
        refine g_goto (pc := 43) (tgt := 59) F dL_many_43 (by decide) ?_
        refine g_iret (pc := 59) F r dL_many_59 ?_
        have hl : la ≠ 2 := fun e => c9 ((LI_law2 hL).mpr e)
        have H := (LI_many hL).2 hl
        have hb : b ≠ 0 := fun e => c27 (by rw [show cw S i 2 = nI b from hL.2.2.1]; exact (nI_z (n := b) (by omega)).mpr e)
        have hc : c = 0 := (nI_z (n := c) (by omega)).mp (by rw [← show cw S i 3 = nI c from hL.2.2.2.1]; exact c39)
        exact ⟨by rw [H.2.1 hb hc] <;> rfl, rfl⟩
    · refine g_iconst (pc := 30) (v := 1) F dL_many_30 (by decide) ?_
      refine g_goto (pc := 31) (tgt := 59) F dL_many_31 (by decide) ?_
      refine g_iret (pc := 59) F r dL_many_59 ?_
      have hl : la ≠ 2 := fun e => c9 ((LI_law2 hL).mpr e)
      have H := (LI_many hL).2 hl
      have hb : b = 0 := (nI_z (n := b) (by omega)).mp (by rw [← show cw S i 2 = nI b from hL.2.2.1]; exact c27)
      exact ⟨by rw [H.1 hb] <;> rfl, rfl⟩
  · refine g_aload_n (pc := 12) F dL_many_12 rfl ?_
    refine g_iload_n (pc := 13) F dL_many_13 rfl ?_
    refine g_iconst (pc := 14) (v := 2) F dL_many_14 (by decide) ?_
    refine g_iadd (pc := 15) F dL_many_15 ?_
    refine g_cld (pc := 16) (i := i) (j := 2) F (ix8 i 2) (by omega) (by decide) dL_many_16 ?_
    refine g_iconst (pc := 17) (v := 1) F dL_many_17 (by decide) ?_
    refine g_iadd (pc := 18) F dL_many_18 ?_
    refine g_goto (pc := 19) (tgt := 59) F dL_many_19 (by decide) ?_
    refine g_iret (pc := 59) F r dL_many_59 ?_
    have hl : la = 2 := (LI_law2 hL).mp c9
    exact ⟨by rw [show cw S i 2 = nI b from hL.2.2.1, nI_1, (LI_many hL).1 hl], rfl⟩

set_option maxHeartbeats 4000000 in
set_option maxRecDepth 100000 in
theorem c_L_gap (l : Launch) (g : Gm) (M : Mem) (S : SV) (i : Nat) (hi : i < 6) (la a b c d : Nat) (hL : LI (cw S i) la a b c d) (p : Nat) (hp : p < NP la b c d) : Cn l yL_gap cL_gap 4 (some .int) 0 0 g [.ref (ad g 225), .int (nI i), .int (nI p)] (WM M S) (fun v M2 => v = some (.int (gapAt (cw S i) (nI p))) ∧ M2 = WM M S) := by
  refine Cn.intro (lv0 := [some (.ref (ad g 225)), some (.int (nI i)), some (.int (nI p)), none]) 1 (by decide +kernel) (Nat.le_of_ble_eq_true rfl) rfl (fun X F r => ?_)
  have hB := hL.2.2.2.2.2.2.2.2.1
  have hP := (NP_bound (la := la) (b := b) (c := c) (d := d) hB).2
  refine g_bipush (pc := 0) (v := 8) F dL_gap_0 (by decide) ?_
  refine g_iload_n (pc := 2) F dL_gap_2 rfl ?_
  refine g_imul (pc := 3) F dL_gap_3 ?_
  refine g_istore_n (pc := 4) F dL_gap_4 (by decide) rfl ?_
  refine g_aload_n (pc := 5) F dL_gap_5 rfl ?_
  refine g_iload_n (pc := 6) F dL_gap_6 rfl ?_
  refine g_cld (pc := 7) (i := i) (j := 0) F (ix80 i) (by omega) (by decide) dL_gap_7 ?_
  refine g_iconst (pc := 8) (v := 2) F dL_gap_8 (by decide) ?_
  refine g_icmp_ne (pc := 9) (tgt := 33) F dL_gap_9 (by decide) (fun c9 => ?_) (fun c9 => ?_)
  · have hl : la ≠ 2 := fun e => c9 ((LI_law2 hL).mpr e)
    have hp4 : p < 4 := Nat.lt_of_lt_of_le hp (NP4 hl)
    refine g_aload_n (pc := 33) F dL_gap_33 rfl ?_
    refine g_iload_n (pc := 34) F dL_gap_34 rfl ?_
    refine g_iconst (pc := 35) (v := 1) F dL_gap_35 (by decide) ?_
    refine g_iadd (pc := 36) F dL_gap_36 ?_
    refine g_iload_n (pc := 37) F dL_gap_37 rfl ?_
    refine g_iadd (pc := 38) F dL_gap_38 ?_
    refine g_cld (pc := 39) (i := i) (j := 1 + p) F (ix8p i p) (by omega) (by omega) dL_gap_39 ?_
    refine g_iret (pc := 40) F r dL_gap_40 ?_
    exact ⟨by rw [show gapAt (cw S i) (nI p) = cw S i (1 + (nI p).toNatClampNeg) from if_neg c9, nI_clamp (by omega)], rfl⟩
  · refine g_aload_n (pc := 12) F dL_gap_12 rfl ?_
    refine g_iload_n (pc := 13) F dL_gap_13 rfl ?_
    refine g_iload_n (pc := 14) F dL_gap_14 rfl ?_
    refine g_aload_n (pc := 15) F dL_gap_15 rfl ?_
    refine g_iload_n (pc := 16) F dL_gap_16 rfl ?_
    refine g_iconst (pc := 17) (v := 2) F dL_gap_17 (by decide) ?_
    refine g_iadd (pc := 18) F dL_gap_18 ?_
    refine g_cld (pc := 19) (i := i) (j := 2) F (ix8 i 2) (by omega) (by decide) dL_gap_19 ?_
    refine g_icmp_ne (pc := 20) (tgt := 27) F dL_gap_20 (by decide) (fun c20 => ?_) (fun c20 => ?_)
    · refine g_iconst (pc := 27) (v := 1) F dL_gap_27 (by decide) ?_
      refine g_iadd (pc := 28) F dL_gap_28 ?_
      refine g_cld (pc := 29) (i := i) (j := 1) F (ix8 i 1) (by omega) (by decide) dL_gap_29 ?_
      refine g_goto (pc := 30) (tgt := 40) F dL_gap_30 (by decide) ?_
      refine g_iret (pc := 40) F r dL_gap_40 ?_
      have hl : la = 2 := (LI_law2 hL).mp c9
      have hN := (LI_many hL).1 hl
      have e2 : cw S i 2 = nI b := hL.2.2.1
      have hlt : nI p < cw S i 2 := by
        rw [e2] at c20 ⊢
        have hne : p ≠ b := fun e => c20 (by rw [e])
        exact nI_lt (by omega) (by omega)
      exact ⟨by rw [show gapAt (cw S i) (nI p) = cw S i 1 from (if_pos c9).trans (if_pos hlt)], rfl⟩
    · refine g_iconst (pc := 23) (v := 3) F dL_gap_23 (by decide) ?_
      refine g_goto (pc := 24) (tgt := 28) F dL_gap_24 (by decide) ?_
      refine g_iadd (pc := 28) F dL_gap_28 ?_
      refine g_cld (pc := 29) (i := i) (j := 3) F (ix8 i 3) (by omega) (by decide) dL_gap_29 ?_
      refine g_goto (pc := 30) (tgt := 40) F dL_gap_30 (by decide) ?_
      refine g_iret (pc := 40) F r dL_gap_40 ?_
      have hl : la = 2 := (LI_law2 hL).mp c9
      have hN := (LI_many hL).1 hl
      have e2 : cw S i 2 = nI b := hL.2.2.1
      have hlt : ¬ nI p < cw S i 2 := by
        rw [c20]
        exact Int32.lt_irrefl
      exact ⟨by rw [show gapAt (cw S i) (nI p) = cw S i 3 from (if_pos c9).trans (if_neg hlt)], rfl⟩

set_option maxHeartbeats 4000000 in
set_option maxRecDepth 100000 in
theorem c_L_bitsOf (l : Launch) (g : Gm) (M : Mem) (z : Nat) (hz : z < 64) : Cn l yL_bitsOf cL_bitsOf 3 (some .int) 0 0 g [.int (nI z)] M (fun v M2 => v = some (.int (nI (pop6 z))) ∧ M2 = M) := by
  refine Cn.intro (lv0 := [some (.int (nI z)), none, none]) 2 (by decide +kernel) (Nat.le_of_ble_eq_true rfl) rfl (fun X F r => ?_)
  refine g_iconst (pc := 0) (v := 0) F dL_bitsOf_0 (by decide) ?_
  refine g_istore_n (pc := 1) F dL_bitsOf_1 (by decide) rfl ?_
  refine g_iload_n (pc := 2) F dL_bitsOf_2 rfl ?_
  refine g_istore_n (pc := 3) F dL_bitsOf_3 (by decide) rfl ?_
  have L : ∀ (f l acc : Nat), l < 2 ^ f → l < 64 → acc + pop6 l = pop6 z → G X g 3 M 4 [some (.int (nI z)), some (.int (nI acc)), some (.int (nI l))] [] := by
    intro f
    induction f with
    | zero =>
      intro l acc h0 h1 h2
      refine g_iload_n (pc := 4) F dL_bitsOf_4 rfl ?_
      refine g_if_le (pc := 5) (tgt := 21) F dL_bitsOf_5 (by decide) (fun c5 => ?_) (fun c5 => ?_)
      · obtain rfl : l = 0 := Classical.byContradiction fun e => nI_nle (n := l) (by omega) (by omega) c5
        have hz0 : acc = pop6 z := by
          have : pop6 0 = 0 := rfl
          omega
        refine g_iload_n (pc := 21) F dL_bitsOf_21 rfl ?_
        refine g_iret (pc := 22) F r dL_bitsOf_22 ?_
        exact ⟨by rw [hz0], rfl⟩
      · exact absurd (show nI l ≤ 0 by rw [show l = 0 by have h1 : (2 : Nat) ^ 0 = 1 := rfl; omega]; decide) c5
    | succ f ih =>
      intro l acc h0 h1 h2
      refine g_iload_n (pc := 4) F dL_bitsOf_4 rfl ?_
      refine g_if_le (pc := 5) (tgt := 21) F dL_bitsOf_5 (by decide) (fun c5 => ?_) (fun c5 => ?_)
      · obtain rfl : l = 0 := Classical.byContradiction fun e => nI_nle (n := l) (by omega) (by omega) c5
        have hz0 : acc = pop6 z := by
          have : pop6 0 = 0 := rfl
          omega
        refine g_iload_n (pc := 21) F dL_bitsOf_21 rfl ?_
        refine g_iret (pc := 22) F r dL_bitsOf_22 ?_
        exact ⟨by rw [hz0], rfl⟩
      · obtain ⟨b1, b2, b3⟩ := bit_1 l h1
        refine g_iload_n (pc := 8) F dL_bitsOf_8 rfl ?_
        refine g_iload_n (pc := 9) F dL_bitsOf_9 rfl ?_
        refine g_iconst (pc := 10) (v := 1) F dL_bitsOf_10 (by decide) ?_
        refine g_iand (pc := 11) F dL_bitsOf_11 ?_
        refine g_iadd (pc := 12) F dL_bitsOf_12 ?_
        refine g_istore_n (pc := 13) F dL_bitsOf_13 (by decide) rfl ?_
        refine g_iload_n (pc := 14) F dL_bitsOf_14 rfl ?_
        refine g_iconst (pc := 15) (v := 1) F dL_bitsOf_15 (by decide) ?_
        refine g_ishr (pc := 16) F dL_bitsOf_16 ?_
        refine g_istore_n (pc := 17) F dL_bitsOf_17 (by decide) rfl ?_
        refine g_goto (pc := 18) (tgt := 4) F dL_bitsOf_18 (by decide) ?_
        refine G.sub [some (.int (nI z)), some (.int (nI (acc + l % 2))), some (.int (nI (l / 2)))] ⟨rfl, ?_, ?_, trivial⟩ (ih (l / 2) (acc + l % 2) (by rw [Nat.pow_succ] at h0; omega) (by omega) (by omega))
        · show some (Value.int (nI acc + (nI l &&& 1))) = _
          rw [b1, nI_add]
        · show some (Value.int (nI l >>> ((1 : Int32) &&& 31))) = _
          rw [b2]
  exact L 6 z 0 (by exact hz) hz (by omega)

theorem beg_chain (S : SV) (i : Nat) (q : Int32) : beg S i q = upd (upd (upd (upd S 3 (bx (cw S i) (S 3))) (4 + 15 * i + 5) (bplace (cw S i) (S 3) q)) (4 + 15 * i + 6) (gapAt (cw S i) (bplace (cw S i) (S 3) q))) (4 + 15 * i + 7) 0 := by
  unfold beg bw
  rw [setC_upd _ _ _ (by decide), setC_upd _ _ _ (by decide), setC_upd _ _ _ (by decide), setC_cw]
  rw [upd_comm _ (show 4 + 15 * i + 7 ≠ 3 by omega), upd_comm _ (show 4 + 15 * i + 6 ≠ 3 by omega), upd_comm _ (show 4 + 15 * i + 5 ≠ 3 by omega)]
theorem turn_place {p N : Nat} (hp : p < N) (hN : N ≤ 51) : (if nI p = nI N - 1 then (0 : Int32) else nI p + 1) = jrem (nI p + 1) (nI N) := by
  rw [nI_1, jrem_nI (by omega) (by omega) (by omega)]
  have e1 : nI N - 1 = nI (N - 1) := nI_sub (b := 1) (a := N) (by omega)
  rw [e1]
  by_cases h : p = N - 1
  · rw [if_pos (by rw [h]), show p + 1 = N by omega, Nat.mod_self]
    exact nI_0.symm
  · rw [if_neg (fun e => h ((nI_inj (by omega) (by omega)).mp e)), Nat.mod_eq_of_lt (by omega)]
theorem upd_same (f : Nat → Int32) (k : Nat) : upd f k (f k) = f := by
  funext j
  rw [upd_get]
  split
  · next h => rw [h]
  · rfl
set_option maxHeartbeats 4000000 in
set_option maxRecDepth 100000 in
theorem c_L_begins (l : Launch) (g : Gm) (M : Mem) (S : SV) (i : Nat) (hi : i < 6) (la a b c d : Nat) (hL : LI (cw S i) la a b c d) (x : Nat) (hx : x < 10000) (h3 : S 3 = nI x) (p : Nat) (h5 : cw S i 5 = nI p) (hp : p < NP la b c d) : Cn l yL_begins cL_begins 4 none 1 23 g [.ref (ad g 224), .ref (ad g 225), .int (nI i)] (WM M S) (fun v M2 => v = none ∧ M2 = WM M (beg S i (cw S i 5 + 1))) := by
  refine Cn.intro (lv0 := [some (.ref (ad g 224)), some (.ref (ad g 225)), some (.int (nI i)), none]) 1 (by decide +kernel) (Nat.le_of_ble_eq_true rfl) rfl (fun X F r => ?_)
  have hB := hL.2.2.2.2.2.2.2.2.1
  have hP := (NP_bound (la := la) (b := b) (c := c) (d := d) hB).2
  have hP1 := (NP_bound (la := la) (b := b) (c := c) (d := d) hB).1
  have hPn : ¬ nI (NP la b c d) = 0 := nI_ne0 (by omega) (by omega)
  obtain ⟨p2, hp2, hpe⟩ := bplace_nI hL hx (show p + 1 < 2147483648 by omega)
  rw [← h3, ← nI_1, ← h5] at hpe
  have hlo : ∀ j, j < 5 → cw (upd (upd S 3 (bx (cw S i) (S 3))) (4 + 15 * i + 5) (bplace (cw S i) (S 3) (cw S i 5 + 1))) i j = cw S i j := fun j hj => by
    unfold cw
    rw [upd_ne _ _ (by omega), upd_ne _ _ (by omega)]
  have hL2 : LI (cw (upd (upd S 3 (bx (cw S i) (S 3))) (4 + 15 * i + 5) (bplace (cw S i) (S 3) (cw S i 5 + 1))) i) la a b c d := LI_congr hL hlo
  have e52 : cw (upd (upd S 3 (bx (cw S i) (S 3))) (4 + 15 * i + 5) (bplace (cw S i) (S 3) (cw S i 5 + 1))) i 5 = nI p2 := by
    rw [← hpe]
    unfold cw
    rw [upd_self]
  have hg2 : cw S i 0 = 2 ∨ ∃ j, j < 4 ∧ nI p2 = nI j := by
    by_cases h2 : la = 2
    · exact Or.inl ((LI_law2 hL).mpr h2)
    · exact Or.inr ⟨p2, Nat.lt_of_lt_of_le hp2 (NP4 h2), rfl⟩
  have T : G X g 4 (WM M (upd (upd S 3 (bx (cw S i) (S 3))) (4 + 15 * i + 5) (bplace (cw S i) (S 3) (cw S i 5 + 1)))) 86 [some (.ref (ad g 224)), some (.ref (ad g 225)), some (.int (nI i)), some (.int (nI (NP la b c d)))] [] := by
    refine g_aload_n (pc := 86) F dL_begins_86 rfl ?_
    refine g_bipush (pc := 87) (v := 8) F dL_begins_87 (by decide) ?_
    refine g_iload_n (pc := 89) F dL_begins_89 rfl ?_
    refine g_imul (pc := 90) F dL_begins_90 ?_
    refine g_bipush (pc := 91) (v := 6) F dL_begins_91 (by decide) ?_
    refine g_iadd (pc := 93) F dL_begins_93 ?_
    refine g_aload_n (pc := 94) F dL_begins_94 rfl ?_
    refine g_iload_n (pc := 95) F dL_begins_95 rfl ?_
    refine g_aload_n (pc := 96) F dL_begins_96 rfl ?_
    refine g_bipush (pc := 97) (v := 8) F dL_begins_97 (by decide) ?_
    refine g_iload_n (pc := 99) F dL_begins_99 rfl ?_
    refine g_imul (pc := 100) F dL_begins_100 ?_
    refine g_iconst (pc := 101) (v := 5) F dL_begins_101 (by decide) ?_
    refine g_iadd (pc := 102) F dL_begins_102 ?_
    refine g_cld (pc := 103) (i := i) (j := 5) F (ix8 i 5) (by omega) (by decide) dL_begins_103 ?_
    refine g_stk (st' := [.int (nI p2), .int (nI i), .ref (ad g 225), .int (8 * nI i + 6), .ref (ad g 225)]) (by rw [e52] <;> rfl) ?_
    refine g_callS (pc := 104) (rf2 := 0) (rl2 := 0) F cs_L_15 (by rfl) (by rfl) (Nat.le_of_ble_eq_true (by rfl)) (by decide) dL_begins_104 (c_L_gap _ g M (upd (upd S 3 (bx (cw S i) (S 3))) (4 + 15 * i + 5) (bplace (cw S i) (S 3) (cw S i 5 + 1))) i hi la a b c d hL2 p2 hp2) (fun v M2 hz => ?_)
    obtain ⟨rfl, rfl⟩ := hz
    refine g_cst (pc := 107) (i := i) (j := 6) F (ix8 i 6) (by omega) (by decide) dL_begins_107 ?_
    refine g_aload_n (pc := 108) F dL_begins_108 rfl ?_
    refine g_bipush (pc := 109) (v := 8) F dL_begins_109 (by decide) ?_
    refine g_iload_n (pc := 111) F dL_begins_111 rfl ?_
    refine g_imul (pc := 112) F dL_begins_112 ?_
    refine g_bipush (pc := 113) (v := 7) F dL_begins_113 (by decide) ?_
    refine g_iadd (pc := 115) F dL_begins_115 ?_
    refine g_iconst (pc := 116) (v := 0) F dL_begins_116 (by decide) ?_
    refine g_cst (pc := 117) (i := i) (j := 7) F (ix8 i 7) (by omega) (by decide) dL_begins_117 ?_
    refine g_vret (pc := 118) F r dL_begins_118 ?_
    refine ⟨rfl, ?_⟩
    rw [beg_chain, gapAt_congr (w := cw S i) (p := nI p2) hlo hg2, hpe]
  refine g_aload_n (pc := 0) F dL_begins_0 rfl ?_
  refine g_iload_n (pc := 1) F dL_begins_1 rfl ?_
  refine g_callS (pc := 2) (rf2 := 0) (rl2 := 0) F cs_L_9 (by rfl) (by rfl) (Nat.le_of_ble_eq_true (by rfl)) (by decide) dL_begins_2 (c_L_many _ g M S i hi la a b c d hL) (fun v M2 hz => ?_)
  obtain ⟨rfl, rfl⟩ := hz
  refine g_istore_n (pc := 5) F dL_begins_5 (by decide) rfl ?_
  refine g_aload_n (pc := 6) F dL_begins_6 rfl ?_
  refine g_bipush (pc := 7) (v := 8) F dL_begins_7 (by decide) ?_
  refine g_iload_n (pc := 9) F dL_begins_9 rfl ?_
  refine g_imul (pc := 10) F dL_begins_10 ?_
  refine g_cld (pc := 11) (i := i) (j := 0) F (ix80 i) (by omega) (by decide) dL_begins_11 ?_
  refine g_iconst (pc := 12) (v := 1) F dL_begins_12 (by decide) ?_
  refine g_icmp_ne (pc := 13) (tgt := 50) F dL_begins_13 (by decide) (fun c13 => ?_) (fun c13 => ?_)
  · have ebx : bx (cw S i) (S 3) = S 3 := if_neg c13
    have ebp : bplace (cw S i) (S 3) (cw S i 5 + 1) = jrem (cw S i 5 + 1) (places (cw S i)) := if_neg c13
    refine g_aload_n (pc := 50) F dL_begins_50 rfl ?_
    refine g_bipush (pc := 51) (v := 8) F dL_begins_51 (by decide) ?_
    refine g_iload_n (pc := 53) F dL_begins_53 rfl ?_
    refine g_imul (pc := 54) F dL_begins_54 ?_
    refine g_iconst (pc := 55) (v := 5) F dL_begins_55 (by decide) ?_
    refine g_iadd (pc := 56) F dL_begins_56 ?_
    refine g_aload_n (pc := 57) F dL_begins_57 rfl ?_
    refine g_bipush (pc := 58) (v := 8) F dL_begins_58 (by decide) ?_
    refine g_iload_n (pc := 60) F dL_begins_60 rfl ?_
    refine g_imul (pc := 61) F dL_begins_61 ?_
    refine g_iconst (pc := 62) (v := 5) F dL_begins_62 (by decide) ?_
    refine g_iadd (pc := 63) F dL_begins_63 ?_
    refine g_cld (pc := 64) (i := i) (j := 5) F (ix8 i 5) (by omega) (by decide) dL_begins_64 ?_
    refine g_iload_n (pc := 65) F dL_begins_65 rfl ?_
    refine g_iconst (pc := 66) (v := 1) F dL_begins_66 (by decide) ?_
    refine g_isub (pc := 67) F dL_begins_67 ?_
    refine g_icmp_ne (pc := 68) (tgt := 75) F dL_begins_68 (by decide) (fun c68 => ?_) (fun c68 => ?_)
    · refine g_aload_n (pc := 75) F dL_begins_75 rfl ?_
      refine g_bipush (pc := 76) (v := 8) F dL_begins_76 (by decide) ?_
      refine g_iload_n (pc := 78) F dL_begins_78 rfl ?_
      refine g_imul (pc := 79) F dL_begins_79 ?_
      refine g_iconst (pc := 80) (v := 5) F dL_begins_80 (by decide) ?_
      refine g_iadd (pc := 81) F dL_begins_81 ?_
      refine g_cld (pc := 82) (i := i) (j := 5) F (ix8 i 5) (by omega) (by decide) dL_begins_82 ?_
      refine g_iconst (pc := 83) (v := 1) F dL_begins_83 (by decide) ?_
      refine g_iadd (pc := 84) F dL_begins_84 ?_
      refine g_cst (pc := 85) (i := i) (j := 5) F (ix8 i 5) (by omega) (by decide) dL_begins_85 ?_
      refine G.mem (M' := WM M (upd (upd S 3 (bx (cw S i) (S 3))) (4 + 15 * i + 5) (bplace (cw S i) (S 3) (cw S i 5 + 1)))) ?_ T
      rw [ebx, ebp, LI_places hL, upd_same, h5, ← turn_place hp hP, if_neg (by rw [← h5]; exact c68)]
    · refine g_iconst (pc := 71) (v := 0) F dL_begins_71 (by decide) ?_
      refine g_goto (pc := 72) (tgt := 85) F dL_begins_72 (by decide) ?_
      refine g_cst (pc := 85) (i := i) (j := 5) F (ix8 i 5) (by omega) (by decide) dL_begins_85 ?_
      refine G.mem (M' := WM M (upd (upd S 3 (bx (cw S i) (S 3))) (4 + 15 * i + 5) (bplace (cw S i) (S 3) (cw S i 5 + 1)))) ?_ T
      rw [ebx, ebp, LI_places hL, upd_same, h5, ← turn_place hp hP, if_pos (by rw [← h5]; exact c68)]
  · have ebx : bx (cw S i) (S 3) = xnext (S 3) := if_pos c13
    have ebp : bplace (cw S i) (S 3) (cw S i 5 + 1) = jrem (xnext (S 3)) (places (cw S i)) := if_pos c13
    refine g_aload_n (pc := 16) F dL_begins_16 rfl ?_
    refine g_iconst (pc := 17) (v := 3) F dL_begins_17 (by decide) ?_
    refine g_sipush (pc := 18) (v := 421) F dL_begins_18 (by decide) ?_
    refine g_aload_n (pc := 21) F dL_begins_21 rfl ?_
    refine g_iconst (pc := 22) (v := 3) F dL_begins_22 (by decide) ?_
    refine g_gld (pc := 23) (j := 3) F rfl (by decide) dL_begins_23 ?_
    refine g_imul (pc := 24) F dL_begins_24 ?_
    refine g_sipush (pc := 25) (v := 1663) F dL_begins_25 (by decide) ?_
    refine g_iadd (pc := 28) F dL_begins_28 ?_
    refine g_sipush (pc := 29) (v := 10000) F dL_begins_29 (by decide) ?_
    refine g_irem (pc := 32) F (by decide) dL_begins_32 ?_
    refine g_gst (pc := 33) (j := 3) F rfl (by decide) dL_begins_33 ?_
    refine g_aload_n (pc := 34) F dL_begins_34 rfl ?_
    refine g_bipush (pc := 35) (v := 8) F dL_begins_35 (by decide) ?_
    refine g_iload_n (pc := 37) F dL_begins_37 rfl ?_
    refine g_imul (pc := 38) F dL_begins_38 ?_
    refine g_iconst (pc := 39) (v := 5) F dL_begins_39 (by decide) ?_
    refine g_iadd (pc := 40) F dL_begins_40 ?_
    refine g_aload_n (pc := 41) F dL_begins_41 rfl ?_
    refine g_iconst (pc := 42) (v := 3) F dL_begins_42 (by decide) ?_
    refine g_gld (pc := 43) (j := 3) F rfl (by decide) dL_begins_43 ?_
    refine g_iload_n (pc := 44) F dL_begins_44 rfl ?_
    refine g_irem (pc := 45) F hPn dL_begins_45 ?_
    refine g_cst (pc := 46) (i := i) (j := 5) F (ix8 i 5) (by omega) (by decide) dL_begins_46 ?_
    refine g_goto (pc := 47) (tgt := 86) F dL_begins_47 (by decide) ?_
    refine G.mem (M' := WM M (upd (upd S 3 (bx (cw S i) (S 3))) (4 + 15 * i + 5) (bplace (cw S i) (S 3) (cw S i 5 + 1)))) ?_ T
    rw [ebx, ebp, LI_places hL, upd_self]
    rw [show jrem ((421 : Int32) * S 3 + 1663) 10000 = xnext (S 3) by rw [Int32.mul_comm]; rfl]
