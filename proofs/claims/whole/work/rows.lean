section
-- ===== PART A: goes FIRST, ahead of the names: the tables' words, and 'selects' of the private methods out of them =====
/-- a private method of a class that the tables say can be made, by its rows of tables_1 -/
def lw_okq (q : MethodName × Nat) : Prop := (q.1.cls ≠ "java/lang/invoke/MethodHandle" ∧ q.1.cls ≠ "java/lang/invoke/VarHandle") ∧ Cond.instantiable q.1.cls q.2 ∈ tables_1 ∧ Cond.privateMethod q.1 ∈ tables_1 ∧ Cond.instanceMethod q.1 ∈ tables_1
theorem lw_p0 : lw_okq (⟨"RenewalClocks$Clock", "fillRound", "()V"⟩, 10) := ⟨⟨by decide +kernel, by decide +kernel⟩, List.mem_of_getElem? (i := 32) (by decide +kernel), List.mem_of_getElem? (i := 289) (by decide +kernel), List.mem_of_getElem? (i := 290) (by decide +kernel)⟩
theorem lw_p1 : lw_okq (⟨"RenewalClocks$Hall", "beginGap", "(LRenewalClocks$Clock;)V"⟩, 6) := ⟨⟨by decide +kernel, by decide +kernel⟩, List.mem_of_getElem? (i := 23) (by decide +kernel), List.mem_of_getElem? (i := 297) (by decide +kernel), List.mem_of_getElem? (i := 298) (by decide +kernel)⟩
theorem lw_p2 : lw_okq (⟨"RenewalClocks$Hall", "draw", "(I)I"⟩, 6) := ⟨⟨by decide +kernel, by decide +kernel⟩, List.mem_of_getElem? (i := 23) (by decide +kernel), List.mem_of_getElem? (i := 301) (by decide +kernel), List.mem_of_getElem? (i := 302) (by decide +kernel)⟩
theorem lw_p3 : lw_okq (⟨"RenewalClocks", "settle", "(I)I"⟩, 5) := ⟨⟨by decide +kernel, by decide +kernel⟩, List.mem_of_getElem? (i := 15) (by decide +kernel), List.mem_of_getElem? (i := 313) (by decide +kernel), List.mem_of_getElem? (i := 314) (by decide +kernel)⟩
theorem lw_p4 : lw_okq (⟨"RenewalClocks$Hall", "clocksAhead", "(II)I"⟩, 6) := ⟨⟨by decide +kernel, by decide +kernel⟩, List.mem_of_getElem? (i := 23) (by decide +kernel), List.mem_of_getElem? (i := 465) (by decide +kernel), List.mem_of_getElem? (i := 466) (by decide +kernel)⟩
theorem lw_p5 : lw_okq (⟨"RenewalClocks$Orders", "readOrder", "()Z"⟩, 7) := ⟨⟨by decide +kernel, by decide +kernel⟩, List.mem_of_getElem? (i := 188) (by decide +kernel), List.mem_of_getElem? (i := 537) (by decide +kernel), List.mem_of_getElem? (i := 538) (by decide +kernel)⟩
theorem lw_p6 : lw_okq (⟨"RenewalClocks$Orders", "readNumber", "(I)Z"⟩, 7) := ⟨⟨by decide +kernel, by decide +kernel⟩, List.mem_of_getElem? (i := 188) (by decide +kernel), List.mem_of_getElem? (i := 548) (by decide +kernel), List.mem_of_getElem? (i := 549) (by decide +kernel)⟩
theorem lw_p7 : lw_okq (⟨"RenewalClocks$Orders", "setFault", "(II)V"⟩, 7) := ⟨⟨by decide +kernel, by decide +kernel⟩, List.mem_of_getElem? (i := 188) (by decide +kernel), List.mem_of_getElem? (i := 555) (by decide +kernel), List.mem_of_getElem? (i := 556) (by decide +kernel)⟩
theorem lw_p8 : lw_okq (⟨"RenewalClocks$Orders", "obey", "(LRenewalClocks$Hall;)I"⟩, 7) := ⟨⟨by decide +kernel, by decide +kernel⟩, List.mem_of_getElem? (i := 188) (by decide +kernel), List.mem_of_getElem? (i := 559) (by decide +kernel), List.mem_of_getElem? (i := 560) (by decide +kernel)⟩
theorem lw_p9 : lw_okq (⟨"RenewalClocksModel", "changes", "()V"⟩, 15) := ⟨⟨by decide +kernel, by decide +kernel⟩, List.mem_of_getElem? (i := 572) (by decide +kernel), List.mem_of_getElem? (i := 636) (by decide +kernel), List.mem_of_getElem? (i := 637) (by decide +kernel)⟩
theorem lw_p10 : lw_okq (⟨"RenewalClocksModel", "sets", "(III)V"⟩, 15) := ⟨⟨by decide +kernel, by decide +kernel⟩, List.mem_of_getElem? (i := 572) (by decide +kernel), List.mem_of_getElem? (i := 640) (by decide +kernel), List.mem_of_getElem? (i := 641) (by decide +kernel)⟩
theorem lw_p11 : lw_okq (⟨"RenewalClocksModel", "begins", "(II)V"⟩, 15) := ⟨⟨by decide +kernel, by decide +kernel⟩, List.mem_of_getElem? (i := 572) (by decide +kernel), List.mem_of_getElem? (i := 644) (by decide +kernel), List.mem_of_getElem? (i := 645) (by decide +kernel)⟩
theorem lw_p12 : lw_okq (⟨"RenewalClocksModel", "of", "(II)I"⟩, 15) := ⟨⟨by decide +kernel, by decide +kernel⟩, List.mem_of_getElem? (i := 572) (by decide +kernel), List.mem_of_getElem? (i := 648) (by decide +kernel), List.mem_of_getElem? (i := 649) (by decide +kernel)⟩
theorem lw_p13 : lw_okq (⟨"RenewalClocksModel", "places", "(I)I"⟩, 15) := ⟨⟨by decide +kernel, by decide +kernel⟩, List.mem_of_getElem? (i := 572) (by decide +kernel), List.mem_of_getElem? (i := 652) (by decide +kernel), List.mem_of_getElem? (i := 653) (by decide +kernel)⟩
theorem lw_p14 : lw_okq (⟨"RenewalClocksModel", "draw", "(I)I"⟩, 15) := ⟨⟨by decide +kernel, by decide +kernel⟩, List.mem_of_getElem? (i := 572) (by decide +kernel), List.mem_of_getElem? (i := 656) (by decide +kernel), List.mem_of_getElem? (i := 657) (by decide +kernel)⟩
theorem lw_p15 : lw_okq (⟨"RenewalClocksModel", "gapAt", "(II)I"⟩, 15) := ⟨⟨by decide +kernel, by decide +kernel⟩, List.mem_of_getElem? (i := 572) (by decide +kernel), List.mem_of_getElem? (i := 660) (by decide +kernel), List.mem_of_getElem? (i := 661) (by decide +kernel)⟩
def lw_privs_1 : List (MethodName × Nat) := [(⟨"RenewalClocks$Clock", "fillRound", "()V"⟩, 10), (⟨"RenewalClocks$Hall", "beginGap", "(LRenewalClocks$Clock;)V"⟩, 6), (⟨"RenewalClocks$Hall", "draw", "(I)I"⟩, 6), (⟨"RenewalClocks", "settle", "(I)I"⟩, 5), (⟨"RenewalClocks$Hall", "clocksAhead", "(II)I"⟩, 6), (⟨"RenewalClocks$Orders", "readOrder", "()Z"⟩, 7), (⟨"RenewalClocks$Orders", "readNumber", "(I)Z"⟩, 7), (⟨"RenewalClocks$Orders", "setFault", "(II)V"⟩, 7), (⟨"RenewalClocks$Orders", "obey", "(LRenewalClocks$Hall;)I"⟩, 7), (⟨"RenewalClocksModel", "changes", "()V"⟩, 15), (⟨"RenewalClocksModel", "sets", "(III)V"⟩, 15), (⟨"RenewalClocksModel", "begins", "(II)V"⟩, 15), (⟨"RenewalClocksModel", "of", "(II)I"⟩, 15), (⟨"RenewalClocksModel", "places", "(I)I"⟩, 15), (⟨"RenewalClocksModel", "draw", "(I)I"⟩, 15), (⟨"RenewalClocksModel", "gapAt", "(II)I"⟩, 15)]
theorem lw_r1 : ∀ q ∈ lw_privs_1, lw_okq q := List.forall_mem_cons.mpr ⟨lw_p0, List.forall_mem_cons.mpr ⟨lw_p1, List.forall_mem_cons.mpr ⟨lw_p2, List.forall_mem_cons.mpr ⟨lw_p3, List.forall_mem_cons.mpr ⟨lw_p4, List.forall_mem_cons.mpr ⟨lw_p5, List.forall_mem_cons.mpr ⟨lw_p6, List.forall_mem_cons.mpr ⟨lw_p7, List.forall_mem_cons.mpr ⟨lw_p8, List.forall_mem_cons.mpr ⟨lw_p9, List.forall_mem_cons.mpr ⟨lw_p10, List.forall_mem_cons.mpr ⟨lw_p11, List.forall_mem_cons.mpr ⟨lw_p12, List.forall_mem_cons.mpr ⟨lw_p13, List.forall_mem_cons.mpr ⟨lw_p14, List.forall_mem_cons.mpr ⟨lw_p15, fun _ h => absurd h List.not_mem_nil⟩⟩⟩⟩⟩⟩⟩⟩⟩⟩⟩⟩⟩⟩⟩⟩
theorem lw_p16 : lw_okq (⟨"RenewalClocksModel", "isClock", "(I)Z"⟩, 15) := ⟨⟨by decide +kernel, by decide +kernel⟩, List.mem_of_getElem? (i := 572) (by decide +kernel), List.mem_of_getElem? (i := 668) (by decide +kernel), List.mem_of_getElem? (i := 669) (by decide +kernel)⟩
theorem lw_p17 : lw_okq (⟨"RenewalClocksModel", "adds", "(III)V"⟩, 15) := ⟨⟨by decide +kernel, by decide +kernel⟩, List.mem_of_getElem? (i := 572) (by decide +kernel), List.mem_of_getElem? (i := 672) (by decide +kernel), List.mem_of_getElem? (i := 673) (by decide +kernel)⟩
theorem lw_p18 : lw_okq (⟨"RenewalClocksModel", "endsFor", "(I)I"⟩, 15) := ⟨⟨by decide +kernel, by decide +kernel⟩, List.mem_of_getElem? (i := 572) (by decide +kernel), List.mem_of_getElem? (i := 681) (by decide +kernel), List.mem_of_getElem? (i := 682) (by decide +kernel)⟩
theorem lw_p19 : lw_okq (⟨"RenewalClocksModel", "sum", "(I)I"⟩, 15) := ⟨⟨by decide +kernel, by decide +kernel⟩, List.mem_of_getElem? (i := 572) (by decide +kernel), List.mem_of_getElem? (i := 685) (by decide +kernel), List.mem_of_getElem? (i := 686) (by decide +kernel)⟩
theorem lw_p20 : lw_okq (⟨"RenewalClocksModel", "ends", "()V"⟩, 15) := ⟨⟨by decide +kernel, by decide +kernel⟩, List.mem_of_getElem? (i := 572) (by decide +kernel), List.mem_of_getElem? (i := 689) (by decide +kernel), List.mem_of_getElem? (i := 690) (by decide +kernel)⟩
theorem lw_p21 : lw_okq (⟨"RenewalClocksModel", "rest", "(I)I"⟩, 15) := ⟨⟨by decide +kernel, by decide +kernel⟩, List.mem_of_getElem? (i := 572) (by decide +kernel), List.mem_of_getElem? (i := 693) (by decide +kernel), List.mem_of_getElem? (i := 694) (by decide +kernel)⟩
theorem lw_p22 : lw_okq (⟨"RenewalClocksModel", "tells", "(I)V"⟩, 15) := ⟨⟨by decide +kernel, by decide +kernel⟩, List.mem_of_getElem? (i := 572) (by decide +kernel), List.mem_of_getElem? (i := 697) (by decide +kernel), List.mem_of_getElem? (i := 698) (by decide +kernel)⟩
theorem lw_p23 : lw_okq (⟨"RenewalClocksModel", "ofGroup", "(II)I"⟩, 15) := ⟨⟨by decide +kernel, by decide +kernel⟩, List.mem_of_getElem? (i := 572) (by decide +kernel), List.mem_of_getElem? (i := 701) (by decide +kernel), List.mem_of_getElem? (i := 702) (by decide +kernel)⟩
theorem lw_p24 : lw_okq (⟨"RenewalClocksModel", "ones", "(I)I"⟩, 15) := ⟨⟨by decide +kernel, by decide +kernel⟩, List.mem_of_getElem? (i := 572) (by decide +kernel), List.mem_of_getElem? (i := 705) (by decide +kernel), List.mem_of_getElem? (i := 706) (by decide +kernel)⟩
theorem lw_p25 : lw_okq (⟨"RenewalClocksModel", "isGroup", "(I)Z"⟩, 15) := ⟨⟨by decide +kernel, by decide +kernel⟩, List.mem_of_getElem? (i := 572) (by decide +kernel), List.mem_of_getElem? (i := 721) (by decide +kernel), List.mem_of_getElem? (i := 722) (by decide +kernel)⟩
theorem lw_p26 : lw_okq (⟨"RenewalClocksModel", "isIn", "(II)Z"⟩, 15) := ⟨⟨by decide +kernel, by decide +kernel⟩, List.mem_of_getElem? (i := 572) (by decide +kernel), List.mem_of_getElem? (i := 725) (by decide +kernel), List.mem_of_getElem? (i := 726) (by decide +kernel)⟩
theorem lw_p27 : lw_okq (⟨"RenewalClocksModel", "lawMean", "(II)D"⟩, 15) := ⟨⟨by decide +kernel, by decide +kernel⟩, List.mem_of_getElem? (i := 572) (by decide +kernel), List.mem_of_getElem? (i := 744) (by decide +kernel), List.mem_of_getElem? (i := 745) (by decide +kernel)⟩
theorem lw_p28 : lw_okq (⟨"RenewalClocksModel", "ofLaw", "(II)I"⟩, 15) := ⟨⟨by decide +kernel, by decide +kernel⟩, List.mem_of_getElem? (i := 572) (by decide +kernel), List.mem_of_getElem? (i := 748) (by decide +kernel), List.mem_of_getElem? (i := 749) (by decide +kernel)⟩
theorem lw_p29 : lw_okq (⟨"RenewalClocksModel", "leastRest", "(I)I"⟩, 15) := ⟨⟨by decide +kernel, by decide +kernel⟩, List.mem_of_getElem? (i := 572) (by decide +kernel), List.mem_of_getElem? (i := 770) (by decide +kernel), List.mem_of_getElem? (i := 771) (by decide +kernel)⟩
theorem lw_p30 : lw_okq (⟨"RenewalClocksModel", "sumIn", "(I)I"⟩, 15) := ⟨⟨by decide +kernel, by decide +kernel⟩, List.mem_of_getElem? (i := 572) (by decide +kernel), List.mem_of_getElem? (i := 774) (by decide +kernel), List.mem_of_getElem? (i := 775) (by decide +kernel)⟩
theorem lw_p31 : lw_okq (⟨"RenewalClocksModel", "ending", "()I"⟩, 15) := ⟨⟨by decide +kernel, by decide +kernel⟩, List.mem_of_getElem? (i := 572) (by decide +kernel), List.mem_of_getElem? (i := 801) (by decide +kernel), List.mem_of_getElem? (i := 802) (by decide +kernel)⟩
def lw_privs_2 : List (MethodName × Nat) := [(⟨"RenewalClocksModel", "isClock", "(I)Z"⟩, 15), (⟨"RenewalClocksModel", "adds", "(III)V"⟩, 15), (⟨"RenewalClocksModel", "endsFor", "(I)I"⟩, 15), (⟨"RenewalClocksModel", "sum", "(I)I"⟩, 15), (⟨"RenewalClocksModel", "ends", "()V"⟩, 15), (⟨"RenewalClocksModel", "rest", "(I)I"⟩, 15), (⟨"RenewalClocksModel", "tells", "(I)V"⟩, 15), (⟨"RenewalClocksModel", "ofGroup", "(II)I"⟩, 15), (⟨"RenewalClocksModel", "ones", "(I)I"⟩, 15), (⟨"RenewalClocksModel", "isGroup", "(I)Z"⟩, 15), (⟨"RenewalClocksModel", "isIn", "(II)Z"⟩, 15), (⟨"RenewalClocksModel", "lawMean", "(II)D"⟩, 15), (⟨"RenewalClocksModel", "ofLaw", "(II)I"⟩, 15), (⟨"RenewalClocksModel", "leastRest", "(I)I"⟩, 15), (⟨"RenewalClocksModel", "sumIn", "(I)I"⟩, 15), (⟨"RenewalClocksModel", "ending", "()I"⟩, 15)]
theorem lw_r2 : ∀ q ∈ lw_privs_2, lw_okq q := List.forall_mem_cons.mpr ⟨lw_p16, List.forall_mem_cons.mpr ⟨lw_p17, List.forall_mem_cons.mpr ⟨lw_p18, List.forall_mem_cons.mpr ⟨lw_p19, List.forall_mem_cons.mpr ⟨lw_p20, List.forall_mem_cons.mpr ⟨lw_p21, List.forall_mem_cons.mpr ⟨lw_p22, List.forall_mem_cons.mpr ⟨lw_p23, List.forall_mem_cons.mpr ⟨lw_p24, List.forall_mem_cons.mpr ⟨lw_p25, List.forall_mem_cons.mpr ⟨lw_p26, List.forall_mem_cons.mpr ⟨lw_p27, List.forall_mem_cons.mpr ⟨lw_p28, List.forall_mem_cons.mpr ⟨lw_p29, List.forall_mem_cons.mpr ⟨lw_p30, List.forall_mem_cons.mpr ⟨lw_p31, fun _ h => absurd h List.not_mem_nil⟩⟩⟩⟩⟩⟩⟩⟩⟩⟩⟩⟩⟩⟩⟩⟩
theorem lw_p32 : lw_okq (⟨"RenewalClocksModel", "oldest", "()I"⟩, 15) := ⟨⟨by decide +kernel, by decide +kernel⟩, List.mem_of_getElem? (i := 572) (by decide +kernel), List.mem_of_getElem? (i := 805) (by decide +kernel), List.mem_of_getElem? (i := 806) (by decide +kernel)⟩
theorem lw_p33 : lw_okq (⟨"RenewalClocksModel", "plays", "()Z"⟩, 15) := ⟨⟨by decide +kernel, by decide +kernel⟩, List.mem_of_getElem? (i := 572) (by decide +kernel), List.mem_of_getElem? (i := 825) (by decide +kernel), List.mem_of_getElem? (i := 826) (by decide +kernel)⟩
theorem lw_p34 : lw_okq (⟨"RenewalClocksModel", "reads", "()Z"⟩, 15) := ⟨⟨by decide +kernel, by decide +kernel⟩, List.mem_of_getElem? (i := 572) (by decide +kernel), List.mem_of_getElem? (i := 829) (by decide +kernel), List.mem_of_getElem? (i := 830) (by decide +kernel)⟩
theorem lw_p35 : lw_okq (⟨"RenewalClocksModel", "isAt", "(II)Z"⟩, 15) := ⟨⟨by decide +kernel, by decide +kernel⟩, List.mem_of_getElem? (i := 572) (by decide +kernel), List.mem_of_getElem? (i := 833) (by decide +kernel), List.mem_of_getElem? (i := 834) (by decide +kernel)⟩
theorem lw_p36 : lw_okq (⟨"RenewalClocksModel", "numbered", "(I)Z"⟩, 15) := ⟨⟨by decide +kernel, by decide +kernel⟩, List.mem_of_getElem? (i := 572) (by decide +kernel), List.mem_of_getElem? (i := 840) (by decide +kernel), List.mem_of_getElem? (i := 841) (by decide +kernel)⟩
theorem lw_p37 : lw_okq (⟨"RenewalClocksModel", "sign", "(I)Z"⟩, 15) := ⟨⟨by decide +kernel, by decide +kernel⟩, List.mem_of_getElem? (i := 572) (by decide +kernel), List.mem_of_getElem? (i := 844) (by decide +kernel), List.mem_of_getElem? (i := 845) (by decide +kernel)⟩
theorem lw_p38 : lw_okq (⟨"RenewalClocksModel", "calls", "()I"⟩, 15) := ⟨⟨by decide +kernel, by decide +kernel⟩, List.mem_of_getElem? (i := 572) (by decide +kernel), List.mem_of_getElem? (i := 848) (by decide +kernel), List.mem_of_getElem? (i := 849) (by decide +kernel)⟩
def lw_privs_3 : List (MethodName × Nat) := [(⟨"RenewalClocksModel", "oldest", "()I"⟩, 15), (⟨"RenewalClocksModel", "plays", "()Z"⟩, 15), (⟨"RenewalClocksModel", "reads", "()Z"⟩, 15), (⟨"RenewalClocksModel", "isAt", "(II)Z"⟩, 15), (⟨"RenewalClocksModel", "numbered", "(I)Z"⟩, 15), (⟨"RenewalClocksModel", "sign", "(I)Z"⟩, 15), (⟨"RenewalClocksModel", "calls", "()I"⟩, 15)]
theorem lw_r3 : ∀ q ∈ lw_privs_3, lw_okq q := List.forall_mem_cons.mpr ⟨lw_p32, List.forall_mem_cons.mpr ⟨lw_p33, List.forall_mem_cons.mpr ⟨lw_p34, List.forall_mem_cons.mpr ⟨lw_p35, List.forall_mem_cons.mpr ⟨lw_p36, List.forall_mem_cons.mpr ⟨lw_p37, List.forall_mem_cons.mpr ⟨lw_p38, fun _ h => absurd h List.not_mem_nil⟩⟩⟩⟩⟩⟩⟩
def lw_privs : List (MethodName × Nat) := lw_privs_1 ++ (lw_privs_2 ++ (lw_privs_3))
def lw_tbl : List Cond := k2_sels lw_privs ++ tables_1
theorem lw_privs_ok : ∀ q ∈ lw_privs, lw_okq q := by
  show ∀ q ∈ lw_privs_1 ++ (lw_privs_2 ++ (lw_privs_3)), lw_okq q
  exact List.forall_mem_append.mpr ⟨lw_r1, List.forall_mem_append.mpr ⟨lw_r2, lw_r3⟩⟩
/-- the streams that the claim lets the run draw from -/
abbrev lw_cs : List Choice := [Jvm.Choice.named "NaN.bits"]
theorem lw_bits : nanBits ∈ lw_cs := by first | decide | exact List.mem_cons_self | simp [lw_cs, nanBits]
/-! ===== BEGIN words of one list among another's, by their places ===== -/
/-! ===== END ===== -/

/-! ===== BEGIN printed: names, fields, word lists, decode rows ===== -/
def RX0 : String := "RenewalClocks$Clock"
def TX0 : u_T := fun k => match k with
  | 0 => ("RenewalClocks$Clock", "law", "I", false)
  | 1 => ("RenewalClocks$Clock", "numbers", "[I", true)
  | 2 => ("RenewalClocks$Clock", "place", "I", false)
  | 3 => ("RenewalClocks$Clock", "gap", "I", false)
  | 4 => ("RenewalClocks$Clock", "rest", "I", false)
  | 5 => ("RenewalClocks$Clock", "passengers", "I", false)
  | 6 => ("RenewalClocks$Clock", "waited", "I", false)
  | 7 => ("RenewalClocks$Clock", "wound", "I", false)
  | 8 => ("RenewalClocks$Clock", "told", "LRenewalClocks$Gaps;", true)
  | _ => ("RenewalClocks$Clock", "round", "LRenewalClocks$Gaps;", true)
def tyX0 : Nat → FieldType := fun k => match k with
  | 0 => .int
  | 1 => .array .int
  | 2 => .int
  | 3 => .int
  | 4 => .int
  | 5 => .int
  | 6 => .int
  | 7 => .int
  | 8 => .object "RenewalClocks$Gaps"
  | _ => .object "RenewalClocks$Gaps"
theorem nmX0 : ∀ a, a < 10 → ∀ b, b < 10 → a ≠ b → (TX0 a).2.1 ≠ (TX0 b).2.1 := by decide +kernel
theorem tyX0_ok : ∀ k, k < 10 → parseFieldDescriptor (TX0 k).2.2.1 = some (tyX0 k) := by decide +kernel
abbrev cX0_init : ByteArray := prog_2_method_1_code
def yX0_init : MethodName := ⟨RX0, "<init>", "()V"⟩
abbrev cX0_set : ByteArray := prog_2_method_2_code
def yX0_set : MethodName := ⟨RX0, "set", "(IIIII)V"⟩
abbrev cX0_fillRound : ByteArray := prog_2_method_3_code
def yX0_fillRound : MethodName := ⟨RX0, "fillRound", "()V"⟩
abbrev cX0_copyFrom : ByteArray := prog_2_method_4_code
def yX0_copyFrom : MethodName := ⟨RX0, "copyFrom", "(LRenewalClocks$Clock;)V"⟩
abbrev cX0_age : ByteArray := prog_2_method_5_code
def yX0_age : MethodName := ⟨RX0, "age", "()I"⟩
abbrev cX0_placeInTurn : ByteArray := prog_2_method_6_code
def yX0_placeInTurn : MethodName := ⟨RX0, "placeInTurn", "()I"⟩
abbrev cX0_beginAt : ByteArray := prog_2_method_7_code
def yX0_beginAt : MethodName := ⟨RX0, "beginAt", "(I)V"⟩
abbrev cX0_passTick : ByteArray := prog_2_method_8_code
def yX0_passTick : MethodName := ⟨RX0, "passTick", "()Z"⟩
abbrev cX0_tell : ByteArray := prog_2_method_9_code
def yX0_tell : MethodName := ⟨RX0, "tell", "(I)I"⟩
def RX1 : String := "RenewalClocks$Gaps"
def TX1 : u_T := fun k => match k with
  | 0 => ("RenewalClocks$Gaps", "many", "I", false)
  | 1 => ("RenewalClocks$Gaps", "sum", "I", false)
  | 2 => ("RenewalClocks$Gaps", "squares", "I", false)
  | 3 => ("RenewalClocks$Gaps", "waits", "I", false)
  | _ => ("RenewalClocks$Gaps", "longest", "I", false)
def tyX1 : Nat → FieldType := fun k => match k with
  | 0 => .int
  | 1 => .int
  | 2 => .int
  | 3 => .int
  | _ => .int
theorem nmX1 : ∀ a, a < 5 → ∀ b, b < 5 → a ≠ b → (TX1 a).2.1 ≠ (TX1 b).2.1 := by decide +kernel
theorem tyX1_ok : ∀ k, k < 5 → parseFieldDescriptor (TX1 k).2.2.1 = some (tyX1 k) := by decide +kernel
abbrev cX1_init : ByteArray := prog_3_method_1_code
def yX1_init : MethodName := ⟨RX1, "<init>", "()V"⟩
abbrev cX1_empty : ByteArray := prog_3_method_2_code
def yX1_empty : MethodName := ⟨RX1, "empty", "()V"⟩
abbrev cX1_add : ByteArray := prog_3_method_3_code
def yX1_add : MethodName := ⟨RX1, "add", "(II)V"⟩
abbrev cX1_copyFrom : ByteArray := prog_3_method_4_code
def yX1_copyFrom : MethodName := ⟨RX1, "copyFrom", "(LRenewalClocks$Gaps;)V"⟩
abbrev cX1_meanOf : ByteArray := prog_3_method_5_code
def yX1_meanOf : MethodName := ⟨RX1, "meanOf", "(I)D"⟩
def RX2 : String := "RenewalClocks$Group"
def TX2 : u_T := fun k => match k with
  | 0 => ("RenewalClocks$Group", "law", "I", false)
  | 1 => ("RenewalClocks$Group", "members", "I", false)
  | 2 => ("RenewalClocks$Group", "told", "I", false)
  | _ => ("RenewalClocks$Group", "met", "I", false)
def tyX2 : Nat → FieldType := fun k => match k with
  | 0 => .int
  | 1 => .int
  | 2 => .int
  | _ => .int
theorem nmX2 : ∀ a, a < 4 → ∀ b, b < 4 → a ≠ b → (TX2 a).2.1 ≠ (TX2 b).2.1 := by decide +kernel
theorem tyX2_ok : ∀ k, k < 4 → parseFieldDescriptor (TX2 k).2.2.1 = some (tyX2 k) := by decide +kernel
abbrev cX2_init : ByteArray := prog_4_method_1_code
def yX2_init : MethodName := ⟨RX2, "<init>", "()V"⟩
abbrev cX2_set : ByteArray := prog_4_method_2_code
def yX2_set : MethodName := ⟨RX2, "set", "(I)V"⟩
abbrev cX2_copyFrom : ByteArray := prog_4_method_3_code
def yX2_copyFrom : MethodName := ⟨RX2, "copyFrom", "(LRenewalClocks$Group;)V"⟩
abbrev cX2_has : ByteArray := prog_4_method_4_code
def yX2_has : MethodName := ⟨RX2, "has", "(I)Z"⟩
abbrev cX2_size : ByteArray := prog_4_method_5_code
def yX2_size : MethodName := ⟨RX2, "size", "()I"⟩
abbrev cX2_passTick : ByteArray := prog_4_method_6_code
def yX2_passTick : MethodName := ⟨RX2, "passTick", "(I)V"⟩
def RX3 : String := "RenewalClocks$Hall"
def TX3 : u_T := fun k => match k with
  | 0 => ("RenewalClocks$Hall", "clocks", "[LRenewalClocks$Clock;", true)
  | 1 => ("RenewalClocks$Hall", "clockCount", "I", false)
  | 2 => ("RenewalClocks$Hall", "groups", "[LRenewalClocks$Group;", true)
  | 3 => ("RenewalClocks$Hall", "groupCount", "I", false)
  | 4 => ("RenewalClocks$Hall", "now", "I", false)
  | _ => ("RenewalClocks$Hall", "drawn", "I", false)
def tyX3 : Nat → FieldType := fun k => match k with
  | 0 => .array (.object "RenewalClocks$Clock")
  | 1 => .int
  | 2 => .array (.object "RenewalClocks$Group")
  | 3 => .int
  | 4 => .int
  | _ => .int
theorem nmX3 : ∀ a, a < 6 → ∀ b, b < 6 → a ≠ b → (TX3 a).2.1 ≠ (TX3 b).2.1 := by decide +kernel
theorem tyX3_ok : ∀ k, k < 6 → parseFieldDescriptor (TX3 k).2.2.1 = some (tyX3 k) := by decide +kernel
abbrev cX3_init : ByteArray := prog_5_method_1_code
def yX3_init : MethodName := ⟨RX3, "<init>", "()V"⟩
abbrev cX3_copyFrom : ByteArray := prog_5_method_2_code
def yX3_copyFrom : MethodName := ⟨RX3, "copyFrom", "(LRenewalClocks$Hall;)V"⟩
abbrev cX3_clockAt : ByteArray := prog_5_method_3_code
def yX3_clockAt : MethodName := ⟨RX3, "clockAt", "(I)LRenewalClocks$Clock;"⟩
abbrev cX3_groupAt : ByteArray := prog_5_method_4_code
def yX3_groupAt : MethodName := ⟨RX3, "groupAt", "(I)LRenewalClocks$Group;"⟩
abbrev cX3_addClock : ByteArray := prog_5_method_5_code
def yX3_addClock : MethodName := ⟨RX3, "addClock", "(IIIII)I"⟩
abbrev cX3_windClock : ByteArray := prog_5_method_6_code
def yX3_windClock : MethodName := ⟨RX3, "windClock", "(I)I"⟩
abbrev cX3_beginGap : ByteArray := prog_5_method_7_code
def yX3_beginGap : MethodName := ⟨RX3, "beginGap", "(LRenewalClocks$Clock;)V"⟩
abbrev cX3_draw : ByteArray := prog_5_method_8_code
def yX3_draw : MethodName := ⟨RX3, "draw", "(I)I"⟩
abbrev cX3_endTicks : ByteArray := prog_5_method_9_code
def yX3_endTicks : MethodName := ⟨RX3, "endTicks", "(I)I"⟩
abbrev cX3_endTick : ByteArray := prog_5_method_10_code
def yX3_endTick : MethodName := ⟨RX3, "endTick", "()I"⟩
abbrev cX3_addPassenger : ByteArray := prog_5_method_11_code
def yX3_addPassenger : MethodName := ⟨RX3, "addPassenger", "(I)I"⟩
abbrev cX3_addGroup : ByteArray := prog_5_method_12_code
def yX3_addGroup : MethodName := ⟨RX3, "addGroup", "(I)I"⟩
abbrev cX3_joinGroup : ByteArray := prog_5_method_13_code
def yX3_joinGroup : MethodName := ⟨RX3, "joinGroup", "(II)I"⟩
abbrev cX3_leaveGroup : ByteArray := prog_5_method_14_code
def yX3_leaveGroup : MethodName := ⟨RX3, "leaveGroup", "(II)I"⟩
abbrev cX3_leastRest : ByteArray := prog_5_method_15_code
def yX3_leastRest : MethodName := ⟨RX3, "leastRest", "(I)I"⟩
abbrev cX3_sumOver : ByteArray := prog_5_method_16_code
def yX3_sumOver : MethodName := ⟨RX3, "sumOver", "(II)I"⟩
abbrev cX3_clockInPlace : ByteArray := prog_5_method_17_code
def yX3_clockInPlace : MethodName := ⟨RX3, "clockInPlace", "(I)I"⟩
abbrev cX3_clocksAhead : ByteArray := prog_5_method_18_code
def yX3_clocksAhead : MethodName := ⟨RX3, "clocksAhead", "(II)I"⟩
abbrev cX3_waitDueToAll : ByteArray := prog_5_method_19_code
def yX3_waitDueToAll : MethodName := ⟨RX3, "waitDueToAll", "()D"⟩
abbrev cX3_aboutToTell : ByteArray := prog_5_method_20_code
def yX3_aboutToTell : MethodName := ⟨RX3, "aboutToTell", "()I"⟩
abbrev cX3_greatestAge : ByteArray := prog_5_method_21_code
def yX3_greatestAge : MethodName := ⟨RX3, "greatestAge", "()I"⟩
def RX4 : String := "RenewalClocks$History"
def TX4 : u_T := fun k => match k with
  | 0 => ("RenewalClocks$History", "slots", "[LRenewalClocks$Hall;", true)
  | _ => ("RenewalClocks$History", "kept", "I", false)
def tyX4 : Nat → FieldType := fun k => match k with
  | 0 => .array (.object "RenewalClocks$Hall")
  | _ => .int
theorem nmX4 : ∀ a, a < 2 → ∀ b, b < 2 → a ≠ b → (TX4 a).2.1 ≠ (TX4 b).2.1 := by decide +kernel
theorem tyX4_ok : ∀ k, k < 2 → parseFieldDescriptor (TX4 k).2.2.1 = some (tyX4 k) := by decide +kernel
abbrev cX4_init : ByteArray := prog_6_method_1_code
def yX4_init : MethodName := ⟨RX4, "<init>", "()V"⟩
abbrev cX4_note : ByteArray := prog_6_method_2_code
def yX4_note : MethodName := ⟨RX4, "note", "(LRenewalClocks$Hall;)V"⟩
abbrev cX4_keep : ByteArray := prog_6_method_3_code
def yX4_keep : MethodName := ⟨RX4, "keep", "()V"⟩
abbrev cX4_restore : ByteArray := prog_6_method_4_code
def yX4_restore : MethodName := ⟨RX4, "restore", "(LRenewalClocks$Hall;)Z"⟩
def RX5 : String := "RenewalClocks$Orders"
def TX5 : u_T := fun k => match k with
  | 0 => ("RenewalClocks$Orders", "text", "LRenewalClocks$Text;", true)
  | 1 => ("RenewalClocks$Orders", "numbers", "[I", true)
  | 2 => ("RenewalClocks$Orders", "start", "I", false)
  | 3 => ("RenewalClocks$Orders", "at", "I", false)
  | 4 => ("RenewalClocks$Orders", "many", "I", false)
  | 5 => ("RenewalClocks$Orders", "reason", "I", false)
  | _ => ("RenewalClocks$Orders", "cause", "I", false)
def tyX5 : Nat → FieldType := fun k => match k with
  | 0 => .object "RenewalClocks$Text"
  | 1 => .array .int
  | 2 => .int
  | 3 => .int
  | 4 => .int
  | 5 => .int
  | _ => .int
theorem nmX5 : ∀ a, a < 7 → ∀ b, b < 7 → a ≠ b → (TX5 a).2.1 ≠ (TX5 b).2.1 := by decide +kernel
theorem tyX5_ok : ∀ k, k < 7 → parseFieldDescriptor (TX5 k).2.2.1 = some (tyX5 k) := by decide +kernel
abbrev cX5_init : ByteArray := prog_7_method_1_code
def yX5_init : MethodName := ⟨RX5, "<init>", "(LRenewalClocks$Text;)V"⟩
abbrev cX5_tryOut : ByteArray := prog_7_method_2_code
def yX5_tryOut : MethodName := ⟨RX5, "tryOut", "(LRenewalClocks$Hall;LRenewalClocks$Hall;)V"⟩
abbrev cX5_setFault : ByteArray := prog_7_method_3_code
def yX5_setFault : MethodName := ⟨RX5, "setFault", "(II)V"⟩
abbrev cX5_readOrder : ByteArray := prog_7_method_4_code
def yX5_readOrder : MethodName := ⟨RX5, "readOrder", "()Z"⟩
abbrev cX5_numbersBehind : ByteArray := prog_7_method_5_code
def yX5_numbersBehind : MethodName := ⟨RX5, "numbersBehind", "(C)I"⟩
abbrev cX5_readNumber : ByteArray := prog_7_method_6_code
def yX5_readNumber : MethodName := ⟨RX5, "readNumber", "(I)Z"⟩
abbrev cX5_isDigit : ByteArray := prog_7_method_7_code
def yX5_isDigit : MethodName := ⟨RX5, "isDigit", "(C)Z"⟩
abbrev cX5_obey : ByteArray := prog_7_method_8_code
def yX5_obey : MethodName := ⟨RX5, "obey", "(LRenewalClocks$Hall;)I"⟩
def RX6 : String := "RenewalClocks$Text"
def TX6 : u_T := fun k => match k with
  | 0 => ("RenewalClocks$Text", "signs", "[C", true)
  | _ => ("RenewalClocks$Text", "length", "I", false)
def tyX6 : Nat → FieldType := fun k => match k with
  | 0 => .array .char
  | _ => .int
theorem nmX6 : ∀ a, a < 2 → ∀ b, b < 2 → a ≠ b → (TX6 a).2.1 ≠ (TX6 b).2.1 := by decide +kernel
theorem tyX6_ok : ∀ k, k < 2 → parseFieldDescriptor (TX6 k).2.2.1 = some (tyX6 k) := by decide +kernel
abbrev cX6_init : ByteArray := prog_8_method_1_code
def yX6_init : MethodName := ⟨RX6, "<init>", "()V"⟩
abbrev cX6_append : ByteArray := prog_8_method_2_code
def yX6_append : MethodName := ⟨RX6, "append", "(C)Z"⟩
abbrev cX6_signAt : ByteArray := prog_8_method_3_code
def yX6_signAt : MethodName := ⟨RX6, "signAt", "(I)C"⟩
def RX7 : String := "RenewalClocks"
def TX7 : u_T := fun k => match k with
  | 0 => ("RenewalClocks", "hall", "LRenewalClocks$Hall;", true)
  | 1 => ("RenewalClocks", "trial", "LRenewalClocks$Hall;", true)
  | 2 => ("RenewalClocks", "history", "LRenewalClocks$History;", true)
  | 3 => ("RenewalClocks", "text", "LRenewalClocks$Text;", true)
  | _ => ("RenewalClocks", "orders", "LRenewalClocks$Orders;", true)
def tyX7 : Nat → FieldType := fun k => match k with
  | 0 => .object "RenewalClocks$Hall"
  | 1 => .object "RenewalClocks$Hall"
  | 2 => .object "RenewalClocks$History"
  | 3 => .object "RenewalClocks$Text"
  | _ => .object "RenewalClocks$Orders"
theorem nmX7 : ∀ a, a < 5 → ∀ b, b < 5 → a ≠ b → (TX7 a).2.1 ≠ (TX7 b).2.1 := by decide +kernel
theorem tyX7_ok : ∀ k, k < 5 → parseFieldDescriptor (TX7 k).2.2.1 = some (tyX7 k) := by decide +kernel
abbrev cX7_init : ByteArray := prog_1_method_1_code
def yX7_init : MethodName := ⟨RX7, "<init>", "()V"⟩
abbrev cX7_clock : ByteArray := prog_1_method_2_code
def yX7_clock : MethodName := ⟨RX7, "clock", "(IIIII)I"⟩
abbrev cX7_wind : ByteArray := prog_1_method_3_code
def yX7_wind : MethodName := ⟨RX7, "wind", "(I)I"⟩
abbrev cX7_tick : ByteArray := prog_1_method_4_code
def yX7_tick : MethodName := ⟨RX7, "tick", "(I)I"⟩
abbrev cX7_passenger : ByteArray := prog_1_method_5_code
def yX7_passenger : MethodName := ⟨RX7, "passenger", "(I)I"⟩
abbrev cX7_group : ByteArray := prog_1_method_6_code
def yX7_group : MethodName := ⟨RX7, "group", "(I)I"⟩
abbrev cX7_join : ByteArray := prog_1_method_7_code
def yX7_join : MethodName := ⟨RX7, "join", "(II)I"⟩
abbrev cX7_leave : ByteArray := prog_1_method_8_code
def yX7_leave : MethodName := ⟨RX7, "leave", "(II)I"⟩
abbrev cX7_clockOf : ByteArray := prog_1_method_9_code
def yX7_clockOf : MethodName := ⟨RX7, "clockOf", "(II)I"⟩
abbrev cX7_mean : ByteArray := prog_1_method_10_code
def yX7_mean : MethodName := ⟨RX7, "mean", "(II)J"⟩
abbrev cX7_groupOf : ByteArray := prog_1_method_11_code
def yX7_groupOf : MethodName := ⟨RX7, "groupOf", "(II)I"⟩
abbrev cX7_next : ByteArray := prog_1_method_12_code
def yX7_next : MethodName := ⟨RX7, "next", "(I)I"⟩
abbrev cX7_would : ByteArray := prog_1_method_13_code
def yX7_would : MethodName := ⟨RX7, "would", "(III)I"⟩
abbrev cX7_meets : ByteArray := prog_1_method_14_code
def yX7_meets : MethodName := ⟨RX7, "meets", "(I)I"⟩
abbrev cX7_longer : ByteArray := prog_1_method_15_code
def yX7_longer : MethodName := ⟨RX7, "longer", "()J"⟩
abbrev cX7_count : ByteArray := prog_1_method_16_code
def yX7_count : MethodName := ⟨RX7, "count", "(I)I"⟩
abbrev cX7_undo : ByteArray := prog_1_method_17_code
def yX7_undo : MethodName := ⟨RX7, "undo", "()I"⟩
abbrev cX7_type : ByteArray := prog_1_method_18_code
def yX7_type : MethodName := ⟨RX7, "type", "(I)I"⟩
abbrev cX7_clearText : ByteArray := prog_1_method_19_code
def yX7_clearText : MethodName := ⟨RX7, "clearText", "()I"⟩
abbrev cX7_fault : ByteArray := prog_1_method_20_code
def yX7_fault : MethodName := ⟨RX7, "fault", "(I)I"⟩
abbrev cX7_play : ByteArray := prog_1_method_21_code
def yX7_play : MethodName := ⟨RX7, "play", "()I"⟩
abbrev cX7_settle : ByteArray := prog_1_method_22_code
def yX7_settle : MethodName := ⟨RX7, "settle", "(I)I"⟩
abbrev cX7_bitsOf : ByteArray := prog_1_method_23_code
def yX7_bitsOf : MethodName := ⟨RX7, "bitsOf", "(D)J"⟩
abbrev cX7_isLaw : ByteArray := prog_1_method_24_code
def yX7_isLaw : MethodName := ⟨RX7, "isLaw", "(I)Z"⟩
abbrev cX7_isGap : ByteArray := prog_1_method_25_code
def yX7_isGap : MethodName := ⟨RX7, "isGap", "(I)Z"⟩
abbrev cX7_isClock : ByteArray := prog_1_method_26_code
def yX7_isClock : MethodName := ⟨RX7, "isClock", "(IIIII)Z"⟩
abbrev cX7_mayFollow : ByteArray := prog_1_method_27_code
def yX7_mayFollow : MethodName := ⟨RX7, "mayFollow", "(II)Z"⟩
def RX8 : String := "RenewalClocksModel"
def TX8 : u_T := fun k => match k with
  | 0 => ("RenewalClocksModel", "s", "[I", true)
  | 1 => ("RenewalClocksModel", "past", "[I", true)
  | 2 => ("RenewalClocksModel", "held", "[I", true)
  | 3 => ("RenewalClocksModel", "tried", "[I", true)
  | 4 => ("RenewalClocksModel", "pasts", "I", false)
  | 5 => ("RenewalClocksModel", "runs", "Z", false)
  | 6 => ("RenewalClocksModel", "text", "[I", true)
  | 7 => ("RenewalClocksModel", "typed", "I", false)
  | 8 => ("RenewalClocksModel", "spot", "I", false)
  | 9 => ("RenewalClocksModel", "from", "I", false)
  | 10 => ("RenewalClocksModel", "reason", "I", false)
  | 11 => ("RenewalClocksModel", "cause", "I", false)
  | 12 => ("RenewalClocksModel", "orders", "I", false)
  | 13 => ("RenewalClocksModel", "order", "I", false)
  | _ => ("RenewalClocksModel", "numbers", "[I", true)
def tyX8 : Nat → FieldType := fun k => match k with
  | 0 => .array .int
  | 1 => .array .int
  | 2 => .array .int
  | 3 => .array .int
  | 4 => .int
  | 5 => .boolean
  | 6 => .array .int
  | 7 => .int
  | 8 => .int
  | 9 => .int
  | 10 => .int
  | 11 => .int
  | 12 => .int
  | 13 => .int
  | _ => .array .int
theorem nmX8 : ∀ a, a < 15 → ∀ b, b < 15 → a ≠ b → (TX8 a).2.1 ≠ (TX8 b).2.1 := by decide +kernel
theorem tyX8_ok : ∀ k, k < 15 → parseFieldDescriptor (TX8 k).2.2.1 = some (tyX8 k) := by decide +kernel
abbrev cX8_init : ByteArray := prog_10_method_1_code
def yX8_init : MethodName := ⟨RX8, "<init>", "()V"⟩
abbrev cX8_in : ByteArray := prog_10_method_3_code
def yX8_in : MethodName := ⟨RX8, "in", "(III)Z"⟩
abbrev cX8_copies : ByteArray := prog_10_method_4_code
def yX8_copies : MethodName := ⟨RX8, "copies", "([I[I)V"⟩
abbrev cX8_changes : ByteArray := prog_10_method_5_code
def yX8_changes : MethodName := ⟨RX8, "changes", "()V"⟩
abbrev cX8_isClock : ByteArray := prog_10_method_6_code
def yX8_isClock : MethodName := ⟨RX8, "isClock", "(I)Z"⟩
abbrev cX8_isGroup : ByteArray := prog_10_method_7_code
def yX8_isGroup : MethodName := ⟨RX8, "isGroup", "(I)Z"⟩
abbrev cX8_of : ByteArray := prog_10_method_8_code
def yX8_of : MethodName := ⟨RX8, "of", "(II)I"⟩
abbrev cX8_sets : ByteArray := prog_10_method_9_code
def yX8_sets : MethodName := ⟨RX8, "sets", "(III)V"⟩
abbrev cX8_adds : ByteArray := prog_10_method_10_code
def yX8_adds : MethodName := ⟨RX8, "adds", "(III)V"⟩
abbrev cX8_ofGroup : ByteArray := prog_10_method_11_code
def yX8_ofGroup : MethodName := ⟨RX8, "ofGroup", "(II)I"⟩
abbrev cX8_draw : ByteArray := prog_10_method_12_code
def yX8_draw : MethodName := ⟨RX8, "draw", "(I)I"⟩
abbrev cX8_places : ByteArray := prog_10_method_13_code
def yX8_places : MethodName := ⟨RX8, "places", "(I)I"⟩
abbrev cX8_gapAt : ByteArray := prog_10_method_14_code
def yX8_gapAt : MethodName := ⟨RX8, "gapAt", "(II)I"⟩
abbrev cX8_begins : ByteArray := prog_10_method_15_code
def yX8_begins : MethodName := ⟨RX8, "begins", "(II)V"⟩
abbrev cX8_rest : ByteArray := prog_10_method_16_code
def yX8_rest : MethodName := ⟨RX8, "rest", "(I)I"⟩
abbrev cX8_ones : ByteArray := prog_10_method_17_code
def yX8_ones : MethodName := ⟨RX8, "ones", "(I)I"⟩
abbrev cX8_tells : ByteArray := prog_10_method_18_code
def yX8_tells : MethodName := ⟨RX8, "tells", "(I)V"⟩
abbrev cX8_ends : ByteArray := prog_10_method_19_code
def yX8_ends : MethodName := ⟨RX8, "ends", "()V"⟩
abbrev cX8_sum : ByteArray := prog_10_method_20_code
def yX8_sum : MethodName := ⟨RX8, "sum", "(I)I"⟩
abbrev cX8_endsFor : ByteArray := prog_10_method_21_code
def yX8_endsFor : MethodName := ⟨RX8, "endsFor", "(I)I"⟩
abbrev cX8_isLaw : ByteArray := prog_10_method_22_code
def yX8_isLaw : MethodName := ⟨RX8, "isLaw", "(IIIII)Z"⟩
abbrev cX8_clock : ByteArray := prog_10_method_23_code
def yX8_clock : MethodName := ⟨RX8, "clock", "(IIIII)I"⟩
abbrev cX8_wind : ByteArray := prog_10_method_24_code
def yX8_wind : MethodName := ⟨RX8, "wind", "(I)I"⟩
abbrev cX8_tick : ByteArray := prog_10_method_25_code
def yX8_tick : MethodName := ⟨RX8, "tick", "(I)I"⟩
abbrev cX8_passenger : ByteArray := prog_10_method_26_code
def yX8_passenger : MethodName := ⟨RX8, "passenger", "(I)I"⟩
abbrev cX8_group : ByteArray := prog_10_method_27_code
def yX8_group : MethodName := ⟨RX8, "group", "(I)I"⟩
abbrev cX8_isIn : ByteArray := prog_10_method_28_code
def yX8_isIn : MethodName := ⟨RX8, "isIn", "(II)Z"⟩
abbrev cX8_join : ByteArray := prog_10_method_29_code
def yX8_join : MethodName := ⟨RX8, "join", "(II)I"⟩
abbrev cX8_leave : ByteArray := prog_10_method_30_code
def yX8_leave : MethodName := ⟨RX8, "leave", "(II)I"⟩
abbrev cX8_clockOf : ByteArray := prog_10_method_31_code
def yX8_clockOf : MethodName := ⟨RX8, "clockOf", "(II)I"⟩
abbrev cX8_ofLaw : ByteArray := prog_10_method_32_code
def yX8_ofLaw : MethodName := ⟨RX8, "ofLaw", "(II)I"⟩
abbrev cX8_meanOf : ByteArray := prog_10_method_33_code
def yX8_meanOf : MethodName := ⟨RX8, "meanOf", "(IIII)D"⟩
abbrev cX8_lawMean : ByteArray := prog_10_method_34_code
def yX8_lawMean : MethodName := ⟨RX8, "lawMean", "(II)D"⟩
abbrev cX8_mean : ByteArray := prog_10_method_35_code
def yX8_mean : MethodName := ⟨RX8, "mean", "(II)J"⟩
abbrev cX8_leastRest : ByteArray := prog_10_method_36_code
def yX8_leastRest : MethodName := ⟨RX8, "leastRest", "(I)I"⟩
abbrev cX8_sumIn : ByteArray := prog_10_method_37_code
def yX8_sumIn : MethodName := ⟨RX8, "sumIn", "(I)I"⟩
abbrev cX8_groupOf : ByteArray := prog_10_method_38_code
def yX8_groupOf : MethodName := ⟨RX8, "groupOf", "(II)I"⟩
abbrev cX8_next : ByteArray := prog_10_method_39_code
def yX8_next : MethodName := ⟨RX8, "next", "(I)I"⟩
abbrev cX8_would : ByteArray := prog_10_method_40_code
def yX8_would : MethodName := ⟨RX8, "would", "(III)I"⟩
abbrev cX8_meets : ByteArray := prog_10_method_41_code
def yX8_meets : MethodName := ⟨RX8, "meets", "(I)I"⟩
abbrev cX8_longer : ByteArray := prog_10_method_42_code
def yX8_longer : MethodName := ⟨RX8, "longer", "()J"⟩
abbrev cX8_ending : ByteArray := prog_10_method_43_code
def yX8_ending : MethodName := ⟨RX8, "ending", "()I"⟩
abbrev cX8_oldest : ByteArray := prog_10_method_44_code
def yX8_oldest : MethodName := ⟨RX8, "oldest", "()I"⟩
abbrev cX8_count : ByteArray := prog_10_method_45_code
def yX8_count : MethodName := ⟨RX8, "count", "(I)I"⟩
abbrev cX8_undo : ByteArray := prog_10_method_46_code
def yX8_undo : MethodName := ⟨RX8, "undo", "()I"⟩
abbrev cX8_type : ByteArray := prog_10_method_47_code
def yX8_type : MethodName := ⟨RX8, "type", "(I)I"⟩
abbrev cX8_clearText : ByteArray := prog_10_method_48_code
def yX8_clearText : MethodName := ⟨RX8, "clearText", "()I"⟩
abbrev cX8_isAt : ByteArray := prog_10_method_49_code
def yX8_isAt : MethodName := ⟨RX8, "isAt", "(II)Z"⟩
abbrev cX8_sign : ByteArray := prog_10_method_50_code
def yX8_sign : MethodName := ⟨RX8, "sign", "(I)Z"⟩
abbrev cX8_numbered : ByteArray := prog_10_method_51_code
def yX8_numbered : MethodName := ⟨RX8, "numbered", "(I)Z"⟩
abbrev cX8_numbersOf : ByteArray := prog_10_method_52_code
def yX8_numbersOf : MethodName := ⟨RX8, "numbersOf", "(I)I"⟩
abbrev cX8_reads : ByteArray := prog_10_method_53_code
def yX8_reads : MethodName := ⟨RX8, "reads", "()Z"⟩
abbrev cX8_calls : ByteArray := prog_10_method_54_code
def yX8_calls : MethodName := ⟨RX8, "calls", "()I"⟩
abbrev cX8_plays : ByteArray := prog_10_method_55_code
def yX8_plays : MethodName := ⟨RX8, "plays", "()Z"⟩
abbrev cX8_fault : ByteArray := prog_10_method_56_code
def yX8_fault : MethodName := ⟨RX8, "fault", "(I)I"⟩
abbrev cX8_play : ByteArray := prog_10_method_57_code
def yX8_play : MethodName := ⟨RX8, "play", "()I"⟩
def RJxe99ae : String := "java/lang/Double"
def TJxe99ae : u_T := fun k => match k with
  | _ => ("", "", "", false)
def tyJxe99ae : Nat → FieldType := fun k => match k with
  | _ => .int
theorem nmJxe99ae : ∀ a, a < 0 → ∀ b, b < 0 → a ≠ b → (TJxe99ae a).2.1 ≠ (TJxe99ae b).2.1 := by decide +kernel
theorem tyJxe99ae_ok : ∀ k, k < 0 → parseFieldDescriptor (TJxe99ae k).2.2.1 = some (tyJxe99ae k) := by decide +kernel
abbrev cJxe99ae_isNaN_b9ae7 : ByteArray := prog_11_method_6_code
def yJxe99ae_isNaN_b9ae7 : MethodName := ⟨RJxe99ae, "isNaN", "(D)Z"⟩
abbrev cJxe99ae_doubleToLongBits_ccdee : ByteArray := prog_11_method_23_code
def yJxe99ae_doubleToLongBits_ccdee : MethodName := ⟨RJxe99ae, "doubleToLongBits", "(D)J"⟩
def RJ6 : String := "java/lang/Integer"
def TJ6 : u_T := fun k => match k with
  | _ => ("", "", "", false)
def tyJ6 : Nat → FieldType := fun k => match k with
  | _ => .int
theorem nmJ6 : ∀ a, a < 0 → ∀ b, b < 0 → a ≠ b → (TJ6 a).2.1 ≠ (TJ6 b).2.1 := by decide +kernel
theorem tyJ6_ok : ∀ k, k < 0 → parseFieldDescriptor (TJ6 k).2.2.1 = some (tyJ6 k) := by decide +kernel
abbrev cJ6_bitCount_0f7a4 : ByteArray := prog_12_method_49_code
def yJ6_bitCount_0f7a4 : MethodName := ⟨RJ6, "bitCount", "(I)I"⟩
def RJ9 : String := "java/lang/Math"
def TJ9 : u_T := fun k => match k with
  | _ => ("", "", "", false)
def tyJ9 : Nat → FieldType := fun k => match k with
  | _ => .int
theorem nmJ9 : ∀ a, a < 0 → ∀ b, b < 0 → a ≠ b → (TJ9 a).2.1 ≠ (TJ9 b).2.1 := by decide +kernel
theorem tyJ9_ok : ∀ k, k < 0 → parseFieldDescriptor (TJ9 k).2.2.1 = some (tyJ9 k) := by decide +kernel
abbrev cJ9_max_7cf53 : ByteArray := prog_13_method_65_code
def yJ9_max_7cf53 : MethodName := ⟨RJ9, "max", "(II)I"⟩
def RJ10 : String := "java/lang/System"
def TJ10 : u_T := fun k => match k with
  | _ => ("", "", "", false)
def tyJ10 : Nat → FieldType := fun k => match k with
  | _ => .int
theorem nmJ10 : ∀ a, a < 0 → ∀ b, b < 0 → a ≠ b → (TJ10 a).2.1 ≠ (TJ10 b).2.1 := by decide +kernel
theorem tyJ10_ok : ∀ k, k < 0 → parseFieldDescriptor (TJ10 k).2.2.1 = some (tyJ10 k) := by decide +kernel
def RL : String := "RenewalClocksLaw"
abbrev cL_law : ByteArray := code
def yL_law : MethodName := ⟨RL, "law", "([I)Z"⟩
abbrev vwCl : List vw_C := [(RX0, TX0, 10), (RX1, TX1, 5), (RX2, TX2, 4), (RX3, TX3, 6), (RX4, TX4, 2), (RX5, TX5, 7), (RX6, TX6, 2), (RX7, TX7, 5), (RX8, TX8, 15)]
theorem dX0_init_0 : decode cX0_init 0 = .ok (.aload_n 0, 1) := by decide +kernel
theorem dX0_init_1 : decode cX0_init 1 = .ok (.invokespecial 3, 3) := by decide +kernel
theorem dX0_init_4 : decode cX0_init 4 = .ok (.aload_n 0, 1) := by decide +kernel
theorem dX0_init_5 : decode cX0_init 5 = .ok (.iconst 4, 1) := by decide +kernel
theorem dX0_init_6 : decode cX0_init 6 = .ok (.newarray .int, 2) := by decide +kernel
theorem dX0_init_8 : decode cX0_init 8 = .ok (.putfield 9, 3) := by decide +kernel
theorem dX0_init_11 : decode cX0_init 11 = .ok (.aload_n 0, 1) := by decide +kernel
theorem dX0_init_12 : decode cX0_init 12 = .ok (.new 15, 3) := by decide +kernel
theorem dX0_init_15 : decode cX0_init 15 = .ok (.dup, 1) := by decide +kernel
theorem dX0_init_16 : decode cX0_init 16 = .ok (.invokespecial 17, 3) := by decide +kernel
theorem dX0_init_19 : decode cX0_init 19 = .ok (.putfield 18, 3) := by decide +kernel
theorem dX0_init_22 : decode cX0_init 22 = .ok (.aload_n 0, 1) := by decide +kernel
theorem dX0_init_23 : decode cX0_init 23 = .ok (.new 15, 3) := by decide +kernel
theorem dX0_init_26 : decode cX0_init 26 = .ok (.dup, 1) := by decide +kernel
theorem dX0_init_27 : decode cX0_init 27 = .ok (.invokespecial 17, 3) := by decide +kernel
theorem dX0_init_30 : decode cX0_init 30 = .ok (.putfield 22, 3) := by decide +kernel
theorem dX0_init_33 : decode cX0_init 33 = .ok (.return_, 1) := by decide +kernel
theorem dX0_set_0 : decode cX0_set 0 = .ok (.aload_n 0, 1) := by decide +kernel
theorem dX0_set_1 : decode cX0_set 1 = .ok (.iload_n 1, 1) := by decide +kernel
theorem dX0_set_2 : decode cX0_set 2 = .ok (.putfield 25, 3) := by decide +kernel
theorem dX0_set_5 : decode cX0_set 5 = .ok (.aload_n 0, 1) := by decide +kernel
theorem dX0_set_6 : decode cX0_set 6 = .ok (.getfield 9, 3) := by decide +kernel
theorem dX0_set_9 : decode cX0_set 9 = .ok (.iconst 0, 1) := by decide +kernel
theorem dX0_set_10 : decode cX0_set 10 = .ok (.iload_n 2, 1) := by decide +kernel
theorem dX0_set_11 : decode cX0_set 11 = .ok (.iastore, 1) := by decide +kernel
theorem dX0_set_12 : decode cX0_set 12 = .ok (.aload_n 0, 1) := by decide +kernel
theorem dX0_set_13 : decode cX0_set 13 = .ok (.getfield 9, 3) := by decide +kernel
theorem dX0_set_16 : decode cX0_set 16 = .ok (.iconst 1, 1) := by decide +kernel
theorem dX0_set_17 : decode cX0_set 17 = .ok (.iload_n 3, 1) := by decide +kernel
theorem dX0_set_18 : decode cX0_set 18 = .ok (.iastore, 1) := by decide +kernel
theorem dX0_set_19 : decode cX0_set 19 = .ok (.aload_n 0, 1) := by decide +kernel
theorem dX0_set_20 : decode cX0_set 20 = .ok (.getfield 9, 3) := by decide +kernel
theorem dX0_set_23 : decode cX0_set 23 = .ok (.iconst 2, 1) := by decide +kernel
theorem dX0_set_24 : decode cX0_set 24 = .ok (.iload 4, 2) := by decide +kernel
theorem dX0_set_26 : decode cX0_set 26 = .ok (.iastore, 1) := by decide +kernel
theorem dX0_set_27 : decode cX0_set 27 = .ok (.aload_n 0, 1) := by decide +kernel
theorem dX0_set_28 : decode cX0_set 28 = .ok (.getfield 9, 3) := by decide +kernel
theorem dX0_set_31 : decode cX0_set 31 = .ok (.iconst 3, 1) := by decide +kernel
theorem dX0_set_32 : decode cX0_set 32 = .ok (.iload 5, 2) := by decide +kernel
theorem dX0_set_34 : decode cX0_set 34 = .ok (.iastore, 1) := by decide +kernel
theorem dX0_set_35 : decode cX0_set 35 = .ok (.aload_n 0, 1) := by decide +kernel
theorem dX0_set_36 : decode cX0_set 36 = .ok (.iconst (-1), 1) := by decide +kernel
theorem dX0_set_37 : decode cX0_set 37 = .ok (.putfield 29, 3) := by decide +kernel
theorem dX0_set_40 : decode cX0_set 40 = .ok (.aload_n 0, 1) := by decide +kernel
theorem dX0_set_41 : decode cX0_set 41 = .ok (.iconst 0, 1) := by decide +kernel
theorem dX0_set_42 : decode cX0_set 42 = .ok (.putfield 32, 3) := by decide +kernel
theorem dX0_set_45 : decode cX0_set 45 = .ok (.aload_n 0, 1) := by decide +kernel
theorem dX0_set_46 : decode cX0_set 46 = .ok (.iconst 0, 1) := by decide +kernel
theorem dX0_set_47 : decode cX0_set 47 = .ok (.putfield 35, 3) := by decide +kernel
theorem dX0_set_50 : decode cX0_set 50 = .ok (.aload_n 0, 1) := by decide +kernel
theorem dX0_set_51 : decode cX0_set 51 = .ok (.iconst 0, 1) := by decide +kernel
theorem dX0_set_52 : decode cX0_set 52 = .ok (.putfield 38, 3) := by decide +kernel
theorem dX0_set_55 : decode cX0_set 55 = .ok (.aload_n 0, 1) := by decide +kernel
theorem dX0_set_56 : decode cX0_set 56 = .ok (.iconst 0, 1) := by decide +kernel
theorem dX0_set_57 : decode cX0_set 57 = .ok (.putfield 41, 3) := by decide +kernel
theorem dX0_set_60 : decode cX0_set 60 = .ok (.aload_n 0, 1) := by decide +kernel
theorem dX0_set_61 : decode cX0_set 61 = .ok (.iconst 0, 1) := by decide +kernel
theorem dX0_set_62 : decode cX0_set 62 = .ok (.putfield 44, 3) := by decide +kernel
theorem dX0_set_65 : decode cX0_set 65 = .ok (.aload_n 0, 1) := by decide +kernel
theorem dX0_set_66 : decode cX0_set 66 = .ok (.getfield 18, 3) := by decide +kernel
theorem dX0_set_69 : decode cX0_set 69 = .ok (.invokevirtual 47, 3) := by decide +kernel
theorem dX0_set_72 : decode cX0_set 72 = .ok (.aload_n 0, 1) := by decide +kernel
theorem dX0_set_73 : decode cX0_set 73 = .ok (.invokevirtual 50, 3) := by decide +kernel
theorem dX0_set_76 : decode cX0_set 76 = .ok (.return_, 1) := by decide +kernel
theorem dX0_fillRound_0 : decode cX0_fillRound 0 = .ok (.aload_n 0, 1) := by decide +kernel
theorem dX0_fillRound_1 : decode cX0_fillRound 1 = .ok (.getfield 22, 3) := by decide +kernel
theorem dX0_fillRound_4 : decode cX0_fillRound 4 = .ok (.invokevirtual 47, 3) := by decide +kernel
theorem dX0_fillRound_7 : decode cX0_fillRound 7 = .ok (.aload_n 0, 1) := by decide +kernel
theorem dX0_fillRound_8 : decode cX0_fillRound 8 = .ok (.getfield 25, 3) := by decide +kernel
theorem dX0_fillRound_11 : decode cX0_fillRound 11 = .ok (.iconst 2, 1) := by decide +kernel
theorem dX0_fillRound_12 : decode cX0_fillRound 12 = .ok (.if_icmp .ne 37, 3) := by decide +kernel
theorem dX0_fillRound_15 : decode cX0_fillRound 15 = .ok (.aload_n 0, 1) := by decide +kernel
theorem dX0_fillRound_16 : decode cX0_fillRound 16 = .ok (.getfield 22, 3) := by decide +kernel
theorem dX0_fillRound_19 : decode cX0_fillRound 19 = .ok (.aload_n 0, 1) := by decide +kernel
theorem dX0_fillRound_20 : decode cX0_fillRound 20 = .ok (.getfield 9, 3) := by decide +kernel
theorem dX0_fillRound_23 : decode cX0_fillRound 23 = .ok (.iconst 0, 1) := by decide +kernel
theorem dX0_fillRound_24 : decode cX0_fillRound 24 = .ok (.iaload, 1) := by decide +kernel
theorem dX0_fillRound_25 : decode cX0_fillRound 25 = .ok (.aload_n 0, 1) := by decide +kernel
theorem dX0_fillRound_26 : decode cX0_fillRound 26 = .ok (.getfield 9, 3) := by decide +kernel
theorem dX0_fillRound_29 : decode cX0_fillRound 29 = .ok (.iconst 1, 1) := by decide +kernel
theorem dX0_fillRound_30 : decode cX0_fillRound 30 = .ok (.iaload, 1) := by decide +kernel
theorem dX0_fillRound_31 : decode cX0_fillRound 31 = .ok (.invokevirtual 53, 3) := by decide +kernel
theorem dX0_fillRound_34 : decode cX0_fillRound 34 = .ok (.aload_n 0, 1) := by decide +kernel
theorem dX0_fillRound_35 : decode cX0_fillRound 35 = .ok (.getfield 22, 3) := by decide +kernel
theorem dX0_fillRound_38 : decode cX0_fillRound 38 = .ok (.aload_n 0, 1) := by decide +kernel
theorem dX0_fillRound_39 : decode cX0_fillRound 39 = .ok (.getfield 9, 3) := by decide +kernel
theorem dX0_fillRound_42 : decode cX0_fillRound 42 = .ok (.iconst 2, 1) := by decide +kernel
theorem dX0_fillRound_43 : decode cX0_fillRound 43 = .ok (.iaload, 1) := by decide +kernel
theorem dX0_fillRound_44 : decode cX0_fillRound 44 = .ok (.iconst 1, 1) := by decide +kernel
theorem dX0_fillRound_45 : decode cX0_fillRound 45 = .ok (.invokevirtual 53, 3) := by decide +kernel
theorem dX0_fillRound_48 : decode cX0_fillRound 48 = .ok (.return_, 1) := by decide +kernel
theorem dX0_fillRound_49 : decode cX0_fillRound 49 = .ok (.iconst 0, 1) := by decide +kernel
theorem dX0_fillRound_50 : decode cX0_fillRound 50 = .ok (.istore_n 1, 1) := by decide +kernel
theorem dX0_fillRound_51 : decode cX0_fillRound 51 = .ok (.iload_n 1, 1) := by decide +kernel
theorem dX0_fillRound_52 : decode cX0_fillRound 52 = .ok (.aload_n 0, 1) := by decide +kernel
theorem dX0_fillRound_53 : decode cX0_fillRound 53 = .ok (.getfield 9, 3) := by decide +kernel
theorem dX0_fillRound_56 : decode cX0_fillRound 56 = .ok (.arraylength, 1) := by decide +kernel
theorem dX0_fillRound_57 : decode cX0_fillRound 57 = .ok (.if_icmp .ge 32, 3) := by decide +kernel
theorem dX0_fillRound_60 : decode cX0_fillRound 60 = .ok (.aload_n 0, 1) := by decide +kernel
theorem dX0_fillRound_61 : decode cX0_fillRound 61 = .ok (.getfield 9, 3) := by decide +kernel
theorem dX0_fillRound_64 : decode cX0_fillRound 64 = .ok (.iload_n 1, 1) := by decide +kernel
theorem dX0_fillRound_65 : decode cX0_fillRound 65 = .ok (.iaload, 1) := by decide +kernel
theorem dX0_fillRound_66 : decode cX0_fillRound 66 = .ok (.ifCond .le 17, 3) := by decide +kernel
theorem dX0_fillRound_69 : decode cX0_fillRound 69 = .ok (.aload_n 0, 1) := by decide +kernel
theorem dX0_fillRound_70 : decode cX0_fillRound 70 = .ok (.getfield 22, 3) := by decide +kernel
theorem dX0_fillRound_73 : decode cX0_fillRound 73 = .ok (.aload_n 0, 1) := by decide +kernel
theorem dX0_fillRound_74 : decode cX0_fillRound 74 = .ok (.getfield 9, 3) := by decide +kernel
theorem dX0_fillRound_77 : decode cX0_fillRound 77 = .ok (.iload_n 1, 1) := by decide +kernel
theorem dX0_fillRound_78 : decode cX0_fillRound 78 = .ok (.iaload, 1) := by decide +kernel
theorem dX0_fillRound_79 : decode cX0_fillRound 79 = .ok (.iconst 1, 1) := by decide +kernel
theorem dX0_fillRound_80 : decode cX0_fillRound 80 = .ok (.invokevirtual 53, 3) := by decide +kernel
theorem dX0_fillRound_83 : decode cX0_fillRound 83 = .ok (.iinc 1 1, 3) := by decide +kernel
theorem dX0_fillRound_86 : decode cX0_fillRound 86 = .ok (.goto (-35), 3) := by decide +kernel
theorem dX0_fillRound_89 : decode cX0_fillRound 89 = .ok (.return_, 1) := by decide +kernel
theorem dX0_copyFrom_0 : decode cX0_copyFrom 0 = .ok (.aload_n 0, 1) := by decide +kernel
theorem dX0_copyFrom_1 : decode cX0_copyFrom 1 = .ok (.aload_n 1, 1) := by decide +kernel
theorem dX0_copyFrom_2 : decode cX0_copyFrom 2 = .ok (.getfield 25, 3) := by decide +kernel
theorem dX0_copyFrom_5 : decode cX0_copyFrom 5 = .ok (.putfield 25, 3) := by decide +kernel
theorem dX0_copyFrom_8 : decode cX0_copyFrom 8 = .ok (.aload_n 1, 1) := by decide +kernel
theorem dX0_copyFrom_9 : decode cX0_copyFrom 9 = .ok (.getfield 9, 3) := by decide +kernel
theorem dX0_copyFrom_12 : decode cX0_copyFrom 12 = .ok (.iconst 0, 1) := by decide +kernel
theorem dX0_copyFrom_13 : decode cX0_copyFrom 13 = .ok (.aload_n 0, 1) := by decide +kernel
theorem dX0_copyFrom_14 : decode cX0_copyFrom 14 = .ok (.getfield 9, 3) := by decide +kernel
theorem dX0_copyFrom_17 : decode cX0_copyFrom 17 = .ok (.iconst 0, 1) := by decide +kernel
theorem dX0_copyFrom_18 : decode cX0_copyFrom 18 = .ok (.iconst 4, 1) := by decide +kernel
theorem dX0_copyFrom_19 : decode cX0_copyFrom 19 = .ok (.invokestatic 57, 3) := by decide +kernel
theorem dX0_copyFrom_22 : decode cX0_copyFrom 22 = .ok (.aload_n 0, 1) := by decide +kernel
theorem dX0_copyFrom_23 : decode cX0_copyFrom 23 = .ok (.aload_n 1, 1) := by decide +kernel
theorem dX0_copyFrom_24 : decode cX0_copyFrom 24 = .ok (.getfield 29, 3) := by decide +kernel
theorem dX0_copyFrom_27 : decode cX0_copyFrom 27 = .ok (.putfield 29, 3) := by decide +kernel
theorem dX0_copyFrom_30 : decode cX0_copyFrom 30 = .ok (.aload_n 0, 1) := by decide +kernel
theorem dX0_copyFrom_31 : decode cX0_copyFrom 31 = .ok (.aload_n 1, 1) := by decide +kernel
theorem dX0_copyFrom_32 : decode cX0_copyFrom 32 = .ok (.getfield 32, 3) := by decide +kernel
theorem dX0_copyFrom_35 : decode cX0_copyFrom 35 = .ok (.putfield 32, 3) := by decide +kernel
theorem dX0_copyFrom_38 : decode cX0_copyFrom 38 = .ok (.aload_n 0, 1) := by decide +kernel
theorem dX0_copyFrom_39 : decode cX0_copyFrom 39 = .ok (.aload_n 1, 1) := by decide +kernel
theorem dX0_copyFrom_40 : decode cX0_copyFrom 40 = .ok (.getfield 35, 3) := by decide +kernel
theorem dX0_copyFrom_43 : decode cX0_copyFrom 43 = .ok (.putfield 35, 3) := by decide +kernel
theorem dX0_copyFrom_46 : decode cX0_copyFrom 46 = .ok (.aload_n 0, 1) := by decide +kernel
theorem dX0_copyFrom_47 : decode cX0_copyFrom 47 = .ok (.aload_n 1, 1) := by decide +kernel
theorem dX0_copyFrom_48 : decode cX0_copyFrom 48 = .ok (.getfield 38, 3) := by decide +kernel
theorem dX0_copyFrom_51 : decode cX0_copyFrom 51 = .ok (.putfield 38, 3) := by decide +kernel
theorem dX0_copyFrom_54 : decode cX0_copyFrom 54 = .ok (.aload_n 0, 1) := by decide +kernel
theorem dX0_copyFrom_55 : decode cX0_copyFrom 55 = .ok (.aload_n 1, 1) := by decide +kernel
theorem dX0_copyFrom_56 : decode cX0_copyFrom 56 = .ok (.getfield 41, 3) := by decide +kernel
theorem dX0_copyFrom_59 : decode cX0_copyFrom 59 = .ok (.putfield 41, 3) := by decide +kernel
theorem dX0_copyFrom_62 : decode cX0_copyFrom 62 = .ok (.aload_n 0, 1) := by decide +kernel
theorem dX0_copyFrom_63 : decode cX0_copyFrom 63 = .ok (.aload_n 1, 1) := by decide +kernel
theorem dX0_copyFrom_64 : decode cX0_copyFrom 64 = .ok (.getfield 44, 3) := by decide +kernel
theorem dX0_copyFrom_67 : decode cX0_copyFrom 67 = .ok (.putfield 44, 3) := by decide +kernel
theorem dX0_copyFrom_70 : decode cX0_copyFrom 70 = .ok (.aload_n 0, 1) := by decide +kernel
theorem dX0_copyFrom_71 : decode cX0_copyFrom 71 = .ok (.getfield 18, 3) := by decide +kernel
theorem dX0_copyFrom_74 : decode cX0_copyFrom 74 = .ok (.aload_n 1, 1) := by decide +kernel
theorem dX0_copyFrom_75 : decode cX0_copyFrom 75 = .ok (.getfield 18, 3) := by decide +kernel
theorem dX0_copyFrom_78 : decode cX0_copyFrom 78 = .ok (.invokevirtual 63, 3) := by decide +kernel
theorem dX0_copyFrom_81 : decode cX0_copyFrom 81 = .ok (.aload_n 0, 1) := by decide +kernel
theorem dX0_copyFrom_82 : decode cX0_copyFrom 82 = .ok (.getfield 22, 3) := by decide +kernel
theorem dX0_copyFrom_85 : decode cX0_copyFrom 85 = .ok (.aload_n 1, 1) := by decide +kernel
theorem dX0_copyFrom_86 : decode cX0_copyFrom 86 = .ok (.getfield 22, 3) := by decide +kernel
theorem dX0_copyFrom_89 : decode cX0_copyFrom 89 = .ok (.invokevirtual 63, 3) := by decide +kernel
theorem dX0_copyFrom_92 : decode cX0_copyFrom 92 = .ok (.return_, 1) := by decide +kernel
theorem dX0_age_0 : decode cX0_age 0 = .ok (.aload_n 0, 1) := by decide +kernel
theorem dX0_age_1 : decode cX0_age 1 = .ok (.getfield 32, 3) := by decide +kernel
theorem dX0_age_4 : decode cX0_age 4 = .ok (.aload_n 0, 1) := by decide +kernel
theorem dX0_age_5 : decode cX0_age 5 = .ok (.getfield 35, 3) := by decide +kernel
theorem dX0_age_8 : decode cX0_age 8 = .ok (.isub, 1) := by decide +kernel
theorem dX0_age_9 : decode cX0_age 9 = .ok (.ireturn, 1) := by decide +kernel
theorem dX0_placeInTurn_0 : decode cX0_placeInTurn 0 = .ok (.aload_n 0, 1) := by decide +kernel
theorem dX0_placeInTurn_1 : decode cX0_placeInTurn 1 = .ok (.getfield 29, 3) := by decide +kernel
theorem dX0_placeInTurn_4 : decode cX0_placeInTurn 4 = .ok (.iconst 1, 1) := by decide +kernel
theorem dX0_placeInTurn_5 : decode cX0_placeInTurn 5 = .ok (.iadd, 1) := by decide +kernel
theorem dX0_placeInTurn_6 : decode cX0_placeInTurn 6 = .ok (.aload_n 0, 1) := by decide +kernel
theorem dX0_placeInTurn_7 : decode cX0_placeInTurn 7 = .ok (.getfield 22, 3) := by decide +kernel
theorem dX0_placeInTurn_10 : decode cX0_placeInTurn 10 = .ok (.getfield 67, 3) := by decide +kernel
theorem dX0_placeInTurn_13 : decode cX0_placeInTurn 13 = .ok (.if_icmp .ge 12, 3) := by decide +kernel
theorem dX0_placeInTurn_16 : decode cX0_placeInTurn 16 = .ok (.aload_n 0, 1) := by decide +kernel
theorem dX0_placeInTurn_17 : decode cX0_placeInTurn 17 = .ok (.getfield 29, 3) := by decide +kernel
theorem dX0_placeInTurn_20 : decode cX0_placeInTurn 20 = .ok (.iconst 1, 1) := by decide +kernel
theorem dX0_placeInTurn_21 : decode cX0_placeInTurn 21 = .ok (.iadd, 1) := by decide +kernel
theorem dX0_placeInTurn_22 : decode cX0_placeInTurn 22 = .ok (.goto 4, 3) := by decide +kernel
theorem dX0_placeInTurn_25 : decode cX0_placeInTurn 25 = .ok (.iconst 0, 1) := by decide +kernel
theorem dX0_placeInTurn_26 : decode cX0_placeInTurn 26 = .ok (.ireturn, 1) := by decide +kernel
theorem dX0_beginAt_0 : decode cX0_beginAt 0 = .ok (.aload_n 0, 1) := by decide +kernel
theorem dX0_beginAt_1 : decode cX0_beginAt 1 = .ok (.iload_n 1, 1) := by decide +kernel
theorem dX0_beginAt_2 : decode cX0_beginAt 2 = .ok (.putfield 29, 3) := by decide +kernel
theorem dX0_beginAt_5 : decode cX0_beginAt 5 = .ok (.aload_n 0, 1) := by decide +kernel
theorem dX0_beginAt_6 : decode cX0_beginAt 6 = .ok (.getfield 25, 3) := by decide +kernel
theorem dX0_beginAt_9 : decode cX0_beginAt 9 = .ok (.iconst 2, 1) := by decide +kernel
theorem dX0_beginAt_10 : decode cX0_beginAt 10 = .ok (.if_icmp .ne 38, 3) := by decide +kernel
theorem dX0_beginAt_13 : decode cX0_beginAt 13 = .ok (.aload_n 0, 1) := by decide +kernel
theorem dX0_beginAt_14 : decode cX0_beginAt 14 = .ok (.aload_n 0, 1) := by decide +kernel
theorem dX0_beginAt_15 : decode cX0_beginAt 15 = .ok (.getfield 29, 3) := by decide +kernel
theorem dX0_beginAt_18 : decode cX0_beginAt 18 = .ok (.aload_n 0, 1) := by decide +kernel
theorem dX0_beginAt_19 : decode cX0_beginAt 19 = .ok (.getfield 9, 3) := by decide +kernel
theorem dX0_beginAt_22 : decode cX0_beginAt 22 = .ok (.iconst 1, 1) := by decide +kernel
theorem dX0_beginAt_23 : decode cX0_beginAt 23 = .ok (.iaload, 1) := by decide +kernel
theorem dX0_beginAt_24 : decode cX0_beginAt 24 = .ok (.if_icmp .ge 12, 3) := by decide +kernel
theorem dX0_beginAt_27 : decode cX0_beginAt 27 = .ok (.aload_n 0, 1) := by decide +kernel
theorem dX0_beginAt_28 : decode cX0_beginAt 28 = .ok (.getfield 9, 3) := by decide +kernel
theorem dX0_beginAt_31 : decode cX0_beginAt 31 = .ok (.iconst 0, 1) := by decide +kernel
theorem dX0_beginAt_32 : decode cX0_beginAt 32 = .ok (.iaload, 1) := by decide +kernel
theorem dX0_beginAt_33 : decode cX0_beginAt 33 = .ok (.goto 9, 3) := by decide +kernel
theorem dX0_beginAt_36 : decode cX0_beginAt 36 = .ok (.aload_n 0, 1) := by decide +kernel
theorem dX0_beginAt_37 : decode cX0_beginAt 37 = .ok (.getfield 9, 3) := by decide +kernel
theorem dX0_beginAt_40 : decode cX0_beginAt 40 = .ok (.iconst 2, 1) := by decide +kernel
theorem dX0_beginAt_41 : decode cX0_beginAt 41 = .ok (.iaload, 1) := by decide +kernel
theorem dX0_beginAt_42 : decode cX0_beginAt 42 = .ok (.putfield 32, 3) := by decide +kernel
theorem dX0_beginAt_45 : decode cX0_beginAt 45 = .ok (.goto 44, 3) := by decide +kernel
theorem dX0_beginAt_48 : decode cX0_beginAt 48 = .ok (.aload_n 0, 1) := by decide +kernel
theorem dX0_beginAt_49 : decode cX0_beginAt 49 = .ok (.aload_n 0, 1) := by decide +kernel
theorem dX0_beginAt_50 : decode cX0_beginAt 50 = .ok (.getfield 29, 3) := by decide +kernel
theorem dX0_beginAt_53 : decode cX0_beginAt 53 = .ok (.ifCond .lt 27, 3) := by decide +kernel
theorem dX0_beginAt_56 : decode cX0_beginAt 56 = .ok (.aload_n 0, 1) := by decide +kernel
theorem dX0_beginAt_57 : decode cX0_beginAt 57 = .ok (.getfield 29, 3) := by decide +kernel
theorem dX0_beginAt_60 : decode cX0_beginAt 60 = .ok (.aload_n 0, 1) := by decide +kernel
theorem dX0_beginAt_61 : decode cX0_beginAt 61 = .ok (.getfield 9, 3) := by decide +kernel
theorem dX0_beginAt_64 : decode cX0_beginAt 64 = .ok (.arraylength, 1) := by decide +kernel
theorem dX0_beginAt_65 : decode cX0_beginAt 65 = .ok (.if_icmp .ge 15, 3) := by decide +kernel
theorem dX0_beginAt_68 : decode cX0_beginAt 68 = .ok (.aload_n 0, 1) := by decide +kernel
theorem dX0_beginAt_69 : decode cX0_beginAt 69 = .ok (.getfield 9, 3) := by decide +kernel
theorem dX0_beginAt_72 : decode cX0_beginAt 72 = .ok (.aload_n 0, 1) := by decide +kernel
theorem dX0_beginAt_73 : decode cX0_beginAt 73 = .ok (.getfield 29, 3) := by decide +kernel
theorem dX0_beginAt_76 : decode cX0_beginAt 76 = .ok (.iaload, 1) := by decide +kernel
theorem dX0_beginAt_77 : decode cX0_beginAt 77 = .ok (.goto 9, 3) := by decide +kernel
theorem dX0_beginAt_80 : decode cX0_beginAt 80 = .ok (.aload_n 0, 1) := by decide +kernel
theorem dX0_beginAt_81 : decode cX0_beginAt 81 = .ok (.getfield 9, 3) := by decide +kernel
theorem dX0_beginAt_84 : decode cX0_beginAt 84 = .ok (.iconst 0, 1) := by decide +kernel
theorem dX0_beginAt_85 : decode cX0_beginAt 85 = .ok (.iaload, 1) := by decide +kernel
theorem dX0_beginAt_86 : decode cX0_beginAt 86 = .ok (.putfield 32, 3) := by decide +kernel
theorem dX0_beginAt_89 : decode cX0_beginAt 89 = .ok (.aload_n 0, 1) := by decide +kernel
theorem dX0_beginAt_90 : decode cX0_beginAt 90 = .ok (.aload_n 0, 1) := by decide +kernel
theorem dX0_beginAt_91 : decode cX0_beginAt 91 = .ok (.getfield 32, 3) := by decide +kernel
theorem dX0_beginAt_94 : decode cX0_beginAt 94 = .ok (.putfield 35, 3) := by decide +kernel
theorem dX0_beginAt_97 : decode cX0_beginAt 97 = .ok (.return_, 1) := by decide +kernel
theorem dX0_passTick_0 : decode cX0_passTick 0 = .ok (.aload_n 0, 1) := by decide +kernel
theorem dX0_passTick_1 : decode cX0_passTick 1 = .ok (.dup, 1) := by decide +kernel
theorem dX0_passTick_2 : decode cX0_passTick 2 = .ok (.getfield 35, 3) := by decide +kernel
theorem dX0_passTick_5 : decode cX0_passTick 5 = .ok (.iconst 1, 1) := by decide +kernel
theorem dX0_passTick_6 : decode cX0_passTick 6 = .ok (.isub, 1) := by decide +kernel
theorem dX0_passTick_7 : decode cX0_passTick 7 = .ok (.putfield 35, 3) := by decide +kernel
theorem dX0_passTick_10 : decode cX0_passTick 10 = .ok (.aload_n 0, 1) := by decide +kernel
theorem dX0_passTick_11 : decode cX0_passTick 11 = .ok (.getfield 35, 3) := by decide +kernel
theorem dX0_passTick_14 : decode cX0_passTick 14 = .ok (.ifCond .le 5, 3) := by decide +kernel
theorem dX0_passTick_17 : decode cX0_passTick 17 = .ok (.iconst 0, 1) := by decide +kernel
theorem dX0_passTick_18 : decode cX0_passTick 18 = .ok (.ireturn, 1) := by decide +kernel
theorem dX0_passTick_19 : decode cX0_passTick 19 = .ok (.aload_n 0, 1) := by decide +kernel
theorem dX0_passTick_20 : decode cX0_passTick 20 = .ok (.getfield 18, 3) := by decide +kernel
theorem dX0_passTick_23 : decode cX0_passTick 23 = .ok (.aload_n 0, 1) := by decide +kernel
theorem dX0_passTick_24 : decode cX0_passTick 24 = .ok (.getfield 32, 3) := by decide +kernel
theorem dX0_passTick_27 : decode cX0_passTick 27 = .ok (.iconst 1, 1) := by decide +kernel
theorem dX0_passTick_28 : decode cX0_passTick 28 = .ok (.invokevirtual 53, 3) := by decide +kernel
theorem dX0_passTick_31 : decode cX0_passTick 31 = .ok (.iconst 1, 1) := by decide +kernel
theorem dX0_passTick_32 : decode cX0_passTick 32 = .ok (.ireturn, 1) := by decide +kernel
theorem dX0_tell_0 : decode cX0_tell 0 = .ok (.iload_n 1, 1) := by decide +kernel
theorem dX0_tell_1 : decode cX0_tell 1 = .ok (.iconst 1, 1) := by decide +kernel
theorem dX0_tell_2 : decode cX0_tell 2 = .ok (.if_icmp .lt 17, 3) := by decide +kernel
theorem dX0_tell_5 : decode cX0_tell 5 = .ok (.iload_n 1, 1) := by decide +kernel
theorem dX0_tell_6 : decode cX0_tell 6 = .ok (.iconst 4, 1) := by decide +kernel
theorem dX0_tell_7 : decode cX0_tell 7 = .ok (.if_icmp .gt 12, 3) := by decide +kernel
theorem dX0_tell_10 : decode cX0_tell 10 = .ok (.aload_n 0, 1) := by decide +kernel
theorem dX0_tell_11 : decode cX0_tell 11 = .ok (.getfield 9, 3) := by decide +kernel
theorem dX0_tell_14 : decode cX0_tell 14 = .ok (.iload_n 1, 1) := by decide +kernel
theorem dX0_tell_15 : decode cX0_tell 15 = .ok (.iconst 1, 1) := by decide +kernel
theorem dX0_tell_16 : decode cX0_tell 16 = .ok (.isub, 1) := by decide +kernel
theorem dX0_tell_17 : decode cX0_tell 17 = .ok (.iaload, 1) := by decide +kernel
theorem dX0_tell_18 : decode cX0_tell 18 = .ok (.ireturn, 1) := by decide +kernel
theorem dX0_tell_19 : decode cX0_tell 19 = .ok (.iload_n 1, 1) := by decide +kernel
theorem dX0_tell_20 : decode cX0_tell 20 = .ok (.tableswitch 137 0 12 #[68, 137, 137, 137, 137, 73, 78, 83, 88, 96, 104, 127, 132], 68) := by decide +kernel
theorem dX0_tell_88 : decode cX0_tell 88 = .ok (.aload_n 0, 1) := by decide +kernel
theorem dX0_tell_89 : decode cX0_tell 89 = .ok (.getfield 25, 3) := by decide +kernel
theorem dX0_tell_92 : decode cX0_tell 92 = .ok (.ireturn, 1) := by decide +kernel
theorem dX0_tell_93 : decode cX0_tell 93 = .ok (.aload_n 0, 1) := by decide +kernel
theorem dX0_tell_94 : decode cX0_tell 94 = .ok (.getfield 32, 3) := by decide +kernel
theorem dX0_tell_97 : decode cX0_tell 97 = .ok (.ireturn, 1) := by decide +kernel
theorem dX0_tell_98 : decode cX0_tell 98 = .ok (.aload_n 0, 1) := by decide +kernel
theorem dX0_tell_99 : decode cX0_tell 99 = .ok (.invokevirtual 70, 3) := by decide +kernel
theorem dX0_tell_102 : decode cX0_tell 102 = .ok (.ireturn, 1) := by decide +kernel
theorem dX0_tell_103 : decode cX0_tell 103 = .ok (.aload_n 0, 1) := by decide +kernel
theorem dX0_tell_104 : decode cX0_tell 104 = .ok (.getfield 35, 3) := by decide +kernel
theorem dX0_tell_107 : decode cX0_tell 107 = .ok (.ireturn, 1) := by decide +kernel
theorem dX0_tell_108 : decode cX0_tell 108 = .ok (.aload_n 0, 1) := by decide +kernel
theorem dX0_tell_109 : decode cX0_tell 109 = .ok (.getfield 18, 3) := by decide +kernel
theorem dX0_tell_112 : decode cX0_tell 112 = .ok (.getfield 67, 3) := by decide +kernel
theorem dX0_tell_115 : decode cX0_tell 115 = .ok (.ireturn, 1) := by decide +kernel
theorem dX0_tell_116 : decode cX0_tell 116 = .ok (.aload_n 0, 1) := by decide +kernel
theorem dX0_tell_117 : decode cX0_tell 117 = .ok (.getfield 18, 3) := by decide +kernel
theorem dX0_tell_120 : decode cX0_tell 120 = .ok (.getfield 74, 3) := by decide +kernel
theorem dX0_tell_123 : decode cX0_tell 123 = .ok (.ireturn, 1) := by decide +kernel
theorem dX0_tell_124 : decode cX0_tell 124 = .ok (.aload_n 0, 1) := by decide +kernel
theorem dX0_tell_125 : decode cX0_tell 125 = .ok (.getfield 18, 3) := by decide +kernel
theorem dX0_tell_128 : decode cX0_tell 128 = .ok (.getfield 67, 3) := by decide +kernel
theorem dX0_tell_131 : decode cX0_tell 131 = .ok (.ifCond .ne 8, 3) := by decide +kernel
theorem dX0_tell_134 : decode cX0_tell 134 = .ok (.ldc 77, 2) := by decide +kernel
theorem dX0_tell_136 : decode cX0_tell 136 = .ok (.goto 10, 3) := by decide +kernel
theorem dX0_tell_139 : decode cX0_tell 139 = .ok (.aload_n 0, 1) := by decide +kernel
theorem dX0_tell_140 : decode cX0_tell 140 = .ok (.getfield 18, 3) := by decide +kernel
theorem dX0_tell_143 : decode cX0_tell 143 = .ok (.getfield 78, 3) := by decide +kernel
theorem dX0_tell_146 : decode cX0_tell 146 = .ok (.ireturn, 1) := by decide +kernel
theorem dX0_tell_147 : decode cX0_tell 147 = .ok (.aload_n 0, 1) := by decide +kernel
theorem dX0_tell_148 : decode cX0_tell 148 = .ok (.getfield 38, 3) := by decide +kernel
theorem dX0_tell_151 : decode cX0_tell 151 = .ok (.ireturn, 1) := by decide +kernel
theorem dX0_tell_152 : decode cX0_tell 152 = .ok (.aload_n 0, 1) := by decide +kernel
theorem dX0_tell_153 : decode cX0_tell 153 = .ok (.getfield 41, 3) := by decide +kernel
theorem dX0_tell_156 : decode cX0_tell 156 = .ok (.ireturn, 1) := by decide +kernel
theorem dX0_tell_157 : decode cX0_tell 157 = .ok (.aload_n 0, 1) := by decide +kernel
theorem dX0_tell_158 : decode cX0_tell 158 = .ok (.getfield 44, 3) := by decide +kernel
theorem dX0_tell_161 : decode cX0_tell 161 = .ok (.ireturn, 1) := by decide +kernel
theorem dX1_init_0 : decode cX1_init 0 = .ok (.aload_n 0, 1) := by decide +kernel
theorem dX1_init_1 : decode cX1_init 1 = .ok (.invokespecial 1, 3) := by decide +kernel
theorem dX1_init_4 : decode cX1_init 4 = .ok (.return_, 1) := by decide +kernel
theorem dX1_empty_0 : decode cX1_empty 0 = .ok (.aload_n 0, 1) := by decide +kernel
theorem dX1_empty_1 : decode cX1_empty 1 = .ok (.iconst 0, 1) := by decide +kernel
theorem dX1_empty_2 : decode cX1_empty 2 = .ok (.putfield 7, 3) := by decide +kernel
theorem dX1_empty_5 : decode cX1_empty 5 = .ok (.aload_n 0, 1) := by decide +kernel
theorem dX1_empty_6 : decode cX1_empty 6 = .ok (.iconst 0, 1) := by decide +kernel
theorem dX1_empty_7 : decode cX1_empty 7 = .ok (.putfield 13, 3) := by decide +kernel
theorem dX1_empty_10 : decode cX1_empty 10 = .ok (.aload_n 0, 1) := by decide +kernel
theorem dX1_empty_11 : decode cX1_empty 11 = .ok (.iconst 0, 1) := by decide +kernel
theorem dX1_empty_12 : decode cX1_empty 12 = .ok (.putfield 16, 3) := by decide +kernel
theorem dX1_empty_15 : decode cX1_empty 15 = .ok (.aload_n 0, 1) := by decide +kernel
theorem dX1_empty_16 : decode cX1_empty 16 = .ok (.iconst 0, 1) := by decide +kernel
theorem dX1_empty_17 : decode cX1_empty 17 = .ok (.putfield 19, 3) := by decide +kernel
theorem dX1_empty_20 : decode cX1_empty 20 = .ok (.aload_n 0, 1) := by decide +kernel
theorem dX1_empty_21 : decode cX1_empty 21 = .ok (.iconst 0, 1) := by decide +kernel
theorem dX1_empty_22 : decode cX1_empty 22 = .ok (.putfield 22, 3) := by decide +kernel
theorem dX1_empty_25 : decode cX1_empty 25 = .ok (.return_, 1) := by decide +kernel
theorem dX1_add_0 : decode cX1_add 0 = .ok (.aload_n 0, 1) := by decide +kernel
theorem dX1_add_1 : decode cX1_add 1 = .ok (.dup, 1) := by decide +kernel
theorem dX1_add_2 : decode cX1_add 2 = .ok (.getfield 7, 3) := by decide +kernel
theorem dX1_add_5 : decode cX1_add 5 = .ok (.iload_n 2, 1) := by decide +kernel
theorem dX1_add_6 : decode cX1_add 6 = .ok (.iadd, 1) := by decide +kernel
theorem dX1_add_7 : decode cX1_add 7 = .ok (.putfield 7, 3) := by decide +kernel
theorem dX1_add_10 : decode cX1_add 10 = .ok (.aload_n 0, 1) := by decide +kernel
theorem dX1_add_11 : decode cX1_add 11 = .ok (.dup, 1) := by decide +kernel
theorem dX1_add_12 : decode cX1_add 12 = .ok (.getfield 13, 3) := by decide +kernel
theorem dX1_add_15 : decode cX1_add 15 = .ok (.iload_n 1, 1) := by decide +kernel
theorem dX1_add_16 : decode cX1_add 16 = .ok (.iload_n 2, 1) := by decide +kernel
theorem dX1_add_17 : decode cX1_add 17 = .ok (.imul, 1) := by decide +kernel
theorem dX1_add_18 : decode cX1_add 18 = .ok (.iadd, 1) := by decide +kernel
theorem dX1_add_19 : decode cX1_add 19 = .ok (.putfield 13, 3) := by decide +kernel
theorem dX1_add_22 : decode cX1_add 22 = .ok (.aload_n 0, 1) := by decide +kernel
theorem dX1_add_23 : decode cX1_add 23 = .ok (.dup, 1) := by decide +kernel
theorem dX1_add_24 : decode cX1_add 24 = .ok (.getfield 16, 3) := by decide +kernel
theorem dX1_add_27 : decode cX1_add 27 = .ok (.iload_n 1, 1) := by decide +kernel
theorem dX1_add_28 : decode cX1_add 28 = .ok (.iload_n 1, 1) := by decide +kernel
theorem dX1_add_29 : decode cX1_add 29 = .ok (.imul, 1) := by decide +kernel
theorem dX1_add_30 : decode cX1_add 30 = .ok (.iload_n 2, 1) := by decide +kernel
theorem dX1_add_31 : decode cX1_add 31 = .ok (.imul, 1) := by decide +kernel
theorem dX1_add_32 : decode cX1_add 32 = .ok (.iadd, 1) := by decide +kernel
theorem dX1_add_33 : decode cX1_add 33 = .ok (.putfield 16, 3) := by decide +kernel
theorem dX1_add_36 : decode cX1_add 36 = .ok (.aload_n 0, 1) := by decide +kernel
theorem dX1_add_37 : decode cX1_add 37 = .ok (.dup, 1) := by decide +kernel
theorem dX1_add_38 : decode cX1_add 38 = .ok (.getfield 19, 3) := by decide +kernel
theorem dX1_add_41 : decode cX1_add 41 = .ok (.iload_n 1, 1) := by decide +kernel
theorem dX1_add_42 : decode cX1_add 42 = .ok (.iload_n 1, 1) := by decide +kernel
theorem dX1_add_43 : decode cX1_add 43 = .ok (.iconst 1, 1) := by decide +kernel
theorem dX1_add_44 : decode cX1_add 44 = .ok (.iadd, 1) := by decide +kernel
theorem dX1_add_45 : decode cX1_add 45 = .ok (.imul, 1) := by decide +kernel
theorem dX1_add_46 : decode cX1_add 46 = .ok (.iconst 2, 1) := by decide +kernel
theorem dX1_add_47 : decode cX1_add 47 = .ok (.idiv, 1) := by decide +kernel
theorem dX1_add_48 : decode cX1_add 48 = .ok (.iload_n 2, 1) := by decide +kernel
theorem dX1_add_49 : decode cX1_add 49 = .ok (.imul, 1) := by decide +kernel
theorem dX1_add_50 : decode cX1_add 50 = .ok (.iadd, 1) := by decide +kernel
theorem dX1_add_51 : decode cX1_add 51 = .ok (.putfield 19, 3) := by decide +kernel
theorem dX1_add_54 : decode cX1_add 54 = .ok (.iload_n 1, 1) := by decide +kernel
theorem dX1_add_55 : decode cX1_add 55 = .ok (.aload_n 0, 1) := by decide +kernel
theorem dX1_add_56 : decode cX1_add 56 = .ok (.getfield 22, 3) := by decide +kernel
theorem dX1_add_59 : decode cX1_add 59 = .ok (.if_icmp .le 8, 3) := by decide +kernel
theorem dX1_add_62 : decode cX1_add 62 = .ok (.aload_n 0, 1) := by decide +kernel
theorem dX1_add_63 : decode cX1_add 63 = .ok (.iload_n 1, 1) := by decide +kernel
theorem dX1_add_64 : decode cX1_add 64 = .ok (.putfield 22, 3) := by decide +kernel
theorem dX1_add_67 : decode cX1_add 67 = .ok (.return_, 1) := by decide +kernel
theorem dX1_copyFrom_0 : decode cX1_copyFrom 0 = .ok (.aload_n 0, 1) := by decide +kernel
theorem dX1_copyFrom_1 : decode cX1_copyFrom 1 = .ok (.aload_n 1, 1) := by decide +kernel
theorem dX1_copyFrom_2 : decode cX1_copyFrom 2 = .ok (.getfield 7, 3) := by decide +kernel
theorem dX1_copyFrom_5 : decode cX1_copyFrom 5 = .ok (.putfield 7, 3) := by decide +kernel
theorem dX1_copyFrom_8 : decode cX1_copyFrom 8 = .ok (.aload_n 0, 1) := by decide +kernel
theorem dX1_copyFrom_9 : decode cX1_copyFrom 9 = .ok (.aload_n 1, 1) := by decide +kernel
theorem dX1_copyFrom_10 : decode cX1_copyFrom 10 = .ok (.getfield 13, 3) := by decide +kernel
theorem dX1_copyFrom_13 : decode cX1_copyFrom 13 = .ok (.putfield 13, 3) := by decide +kernel
theorem dX1_copyFrom_16 : decode cX1_copyFrom 16 = .ok (.aload_n 0, 1) := by decide +kernel
theorem dX1_copyFrom_17 : decode cX1_copyFrom 17 = .ok (.aload_n 1, 1) := by decide +kernel
theorem dX1_copyFrom_18 : decode cX1_copyFrom 18 = .ok (.getfield 16, 3) := by decide +kernel
theorem dX1_copyFrom_21 : decode cX1_copyFrom 21 = .ok (.putfield 16, 3) := by decide +kernel
theorem dX1_copyFrom_24 : decode cX1_copyFrom 24 = .ok (.aload_n 0, 1) := by decide +kernel
theorem dX1_copyFrom_25 : decode cX1_copyFrom 25 = .ok (.aload_n 1, 1) := by decide +kernel
theorem dX1_copyFrom_26 : decode cX1_copyFrom 26 = .ok (.getfield 19, 3) := by decide +kernel
theorem dX1_copyFrom_29 : decode cX1_copyFrom 29 = .ok (.putfield 19, 3) := by decide +kernel
theorem dX1_copyFrom_32 : decode cX1_copyFrom 32 = .ok (.aload_n 0, 1) := by decide +kernel
theorem dX1_copyFrom_33 : decode cX1_copyFrom 33 = .ok (.aload_n 1, 1) := by decide +kernel
theorem dX1_copyFrom_34 : decode cX1_copyFrom 34 = .ok (.getfield 22, 3) := by decide +kernel
theorem dX1_copyFrom_37 : decode cX1_copyFrom 37 = .ok (.putfield 22, 3) := by decide +kernel
theorem dX1_copyFrom_40 : decode cX1_copyFrom 40 = .ok (.return_, 1) := by decide +kernel
theorem dX1_meanOf_0 : decode cX1_meanOf 0 = .ok (.aload_n 0, 1) := by decide +kernel
theorem dX1_meanOf_1 : decode cX1_meanOf 1 = .ok (.getfield 7, 3) := by decide +kernel
theorem dX1_meanOf_4 : decode cX1_meanOf 4 = .ok (.ifCond .le 10, 3) := by decide +kernel
theorem dX1_meanOf_7 : decode cX1_meanOf 7 = .ok (.aload_n 0, 1) := by decide +kernel
theorem dX1_meanOf_8 : decode cX1_meanOf 8 = .ok (.getfield 13, 3) := by decide +kernel
theorem dX1_meanOf_11 : decode cX1_meanOf 11 = .ok (.ifCond .gt 5, 3) := by decide +kernel
theorem dX1_meanOf_14 : decode cX1_meanOf 14 = .ok (.dconst 0, 1) := by decide +kernel
theorem dX1_meanOf_15 : decode cX1_meanOf 15 = .ok (.dreturn, 1) := by decide +kernel
theorem dX1_meanOf_16 : decode cX1_meanOf 16 = .ok (.iload_n 1, 1) := by decide +kernel
theorem dX1_meanOf_17 : decode cX1_meanOf 17 = .ok (.ifCond .ne 15, 3) := by decide +kernel
theorem dX1_meanOf_20 : decode cX1_meanOf 20 = .ok (.aload_n 0, 1) := by decide +kernel
theorem dX1_meanOf_21 : decode cX1_meanOf 21 = .ok (.getfield 13, 3) := by decide +kernel
theorem dX1_meanOf_24 : decode cX1_meanOf 24 = .ok (.i2d, 1) := by decide +kernel
theorem dX1_meanOf_25 : decode cX1_meanOf 25 = .ok (.aload_n 0, 1) := by decide +kernel
theorem dX1_meanOf_26 : decode cX1_meanOf 26 = .ok (.getfield 7, 3) := by decide +kernel
theorem dX1_meanOf_29 : decode cX1_meanOf 29 = .ok (.i2d, 1) := by decide +kernel
theorem dX1_meanOf_30 : decode cX1_meanOf 30 = .ok (.ddiv, 1) := by decide +kernel
theorem dX1_meanOf_31 : decode cX1_meanOf 31 = .ok (.dreturn, 1) := by decide +kernel
theorem dX1_meanOf_32 : decode cX1_meanOf 32 = .ok (.iload_n 1, 1) := by decide +kernel
theorem dX1_meanOf_33 : decode cX1_meanOf 33 = .ok (.iconst 1, 1) := by decide +kernel
theorem dX1_meanOf_34 : decode cX1_meanOf 34 = .ok (.if_icmp .ne 10, 3) := by decide +kernel
theorem dX1_meanOf_37 : decode cX1_meanOf 37 = .ok (.aload_n 0, 1) := by decide +kernel
theorem dX1_meanOf_38 : decode cX1_meanOf 38 = .ok (.getfield 16, 3) := by decide +kernel
theorem dX1_meanOf_41 : decode cX1_meanOf 41 = .ok (.goto 7, 3) := by decide +kernel
theorem dX1_meanOf_44 : decode cX1_meanOf 44 = .ok (.aload_n 0, 1) := by decide +kernel
theorem dX1_meanOf_45 : decode cX1_meanOf 45 = .ok (.getfield 19, 3) := by decide +kernel
theorem dX1_meanOf_48 : decode cX1_meanOf 48 = .ok (.i2d, 1) := by decide +kernel
theorem dX1_meanOf_49 : decode cX1_meanOf 49 = .ok (.aload_n 0, 1) := by decide +kernel
theorem dX1_meanOf_50 : decode cX1_meanOf 50 = .ok (.getfield 13, 3) := by decide +kernel
theorem dX1_meanOf_53 : decode cX1_meanOf 53 = .ok (.i2d, 1) := by decide +kernel
theorem dX1_meanOf_54 : decode cX1_meanOf 54 = .ok (.ddiv, 1) := by decide +kernel
theorem dX1_meanOf_55 : decode cX1_meanOf 55 = .ok (.dreturn, 1) := by decide +kernel
theorem dX2_init_0 : decode cX2_init 0 = .ok (.aload_n 0, 1) := by decide +kernel
theorem dX2_init_1 : decode cX2_init 1 = .ok (.invokespecial 1, 3) := by decide +kernel
theorem dX2_init_4 : decode cX2_init 4 = .ok (.return_, 1) := by decide +kernel
theorem dX2_set_0 : decode cX2_set 0 = .ok (.aload_n 0, 1) := by decide +kernel
theorem dX2_set_1 : decode cX2_set 1 = .ok (.iload_n 1, 1) := by decide +kernel
theorem dX2_set_2 : decode cX2_set 2 = .ok (.putfield 7, 3) := by decide +kernel
theorem dX2_set_5 : decode cX2_set 5 = .ok (.aload_n 0, 1) := by decide +kernel
theorem dX2_set_6 : decode cX2_set 6 = .ok (.iconst 0, 1) := by decide +kernel
theorem dX2_set_7 : decode cX2_set 7 = .ok (.putfield 13, 3) := by decide +kernel
theorem dX2_set_10 : decode cX2_set 10 = .ok (.aload_n 0, 1) := by decide +kernel
theorem dX2_set_11 : decode cX2_set 11 = .ok (.iconst 0, 1) := by decide +kernel
theorem dX2_set_12 : decode cX2_set 12 = .ok (.putfield 16, 3) := by decide +kernel
theorem dX2_set_15 : decode cX2_set 15 = .ok (.aload_n 0, 1) := by decide +kernel
theorem dX2_set_16 : decode cX2_set 16 = .ok (.iconst 0, 1) := by decide +kernel
theorem dX2_set_17 : decode cX2_set 17 = .ok (.putfield 19, 3) := by decide +kernel
theorem dX2_set_20 : decode cX2_set 20 = .ok (.return_, 1) := by decide +kernel
theorem dX2_copyFrom_0 : decode cX2_copyFrom 0 = .ok (.aload_n 0, 1) := by decide +kernel
theorem dX2_copyFrom_1 : decode cX2_copyFrom 1 = .ok (.aload_n 1, 1) := by decide +kernel
theorem dX2_copyFrom_2 : decode cX2_copyFrom 2 = .ok (.getfield 7, 3) := by decide +kernel
theorem dX2_copyFrom_5 : decode cX2_copyFrom 5 = .ok (.putfield 7, 3) := by decide +kernel
theorem dX2_copyFrom_8 : decode cX2_copyFrom 8 = .ok (.aload_n 0, 1) := by decide +kernel
theorem dX2_copyFrom_9 : decode cX2_copyFrom 9 = .ok (.aload_n 1, 1) := by decide +kernel
theorem dX2_copyFrom_10 : decode cX2_copyFrom 10 = .ok (.getfield 13, 3) := by decide +kernel
theorem dX2_copyFrom_13 : decode cX2_copyFrom 13 = .ok (.putfield 13, 3) := by decide +kernel
theorem dX2_copyFrom_16 : decode cX2_copyFrom 16 = .ok (.aload_n 0, 1) := by decide +kernel
theorem dX2_copyFrom_17 : decode cX2_copyFrom 17 = .ok (.aload_n 1, 1) := by decide +kernel
theorem dX2_copyFrom_18 : decode cX2_copyFrom 18 = .ok (.getfield 16, 3) := by decide +kernel
theorem dX2_copyFrom_21 : decode cX2_copyFrom 21 = .ok (.putfield 16, 3) := by decide +kernel
theorem dX2_copyFrom_24 : decode cX2_copyFrom 24 = .ok (.aload_n 0, 1) := by decide +kernel
theorem dX2_copyFrom_25 : decode cX2_copyFrom 25 = .ok (.aload_n 1, 1) := by decide +kernel
theorem dX2_copyFrom_26 : decode cX2_copyFrom 26 = .ok (.getfield 19, 3) := by decide +kernel
theorem dX2_copyFrom_29 : decode cX2_copyFrom 29 = .ok (.putfield 19, 3) := by decide +kernel
theorem dX2_copyFrom_32 : decode cX2_copyFrom 32 = .ok (.return_, 1) := by decide +kernel
theorem dX2_has_0 : decode cX2_has 0 = .ok (.aload_n 0, 1) := by decide +kernel
theorem dX2_has_1 : decode cX2_has 1 = .ok (.getfield 13, 3) := by decide +kernel
theorem dX2_has_4 : decode cX2_has 4 = .ok (.iconst 1, 1) := by decide +kernel
theorem dX2_has_5 : decode cX2_has 5 = .ok (.iload_n 1, 1) := by decide +kernel
theorem dX2_has_6 : decode cX2_has 6 = .ok (.ishl, 1) := by decide +kernel
theorem dX2_has_7 : decode cX2_has 7 = .ok (.iand, 1) := by decide +kernel
theorem dX2_has_8 : decode cX2_has 8 = .ok (.ifCond .eq 7, 3) := by decide +kernel
theorem dX2_has_11 : decode cX2_has 11 = .ok (.iconst 1, 1) := by decide +kernel
theorem dX2_has_12 : decode cX2_has 12 = .ok (.goto 4, 3) := by decide +kernel
theorem dX2_has_15 : decode cX2_has 15 = .ok (.iconst 0, 1) := by decide +kernel
theorem dX2_has_16 : decode cX2_has 16 = .ok (.ireturn, 1) := by decide +kernel
theorem dX2_size_0 : decode cX2_size 0 = .ok (.aload_n 0, 1) := by decide +kernel
theorem dX2_size_1 : decode cX2_size 1 = .ok (.getfield 13, 3) := by decide +kernel
theorem dX2_size_4 : decode cX2_size 4 = .ok (.invokestatic 22, 3) := by decide +kernel
theorem dX2_size_7 : decode cX2_size 7 = .ok (.ireturn, 1) := by decide +kernel
theorem dX2_passTick_0 : decode cX2_passTick 0 = .ok (.aload_n 0, 1) := by decide +kernel
theorem dX2_passTick_1 : decode cX2_passTick 1 = .ok (.getfield 13, 3) := by decide +kernel
theorem dX2_passTick_4 : decode cX2_passTick 4 = .ok (.iload_n 1, 1) := by decide +kernel
theorem dX2_passTick_5 : decode cX2_passTick 5 = .ok (.iand, 1) := by decide +kernel
theorem dX2_passTick_6 : decode cX2_passTick 6 = .ok (.invokestatic 22, 3) := by decide +kernel
theorem dX2_passTick_9 : decode cX2_passTick 9 = .ok (.istore_n 2, 1) := by decide +kernel
theorem dX2_passTick_10 : decode cX2_passTick 10 = .ok (.aload_n 0, 1) := by decide +kernel
theorem dX2_passTick_11 : decode cX2_passTick 11 = .ok (.dup, 1) := by decide +kernel
theorem dX2_passTick_12 : decode cX2_passTick 12 = .ok (.getfield 16, 3) := by decide +kernel
theorem dX2_passTick_15 : decode cX2_passTick 15 = .ok (.iload_n 2, 1) := by decide +kernel
theorem dX2_passTick_16 : decode cX2_passTick 16 = .ok (.iadd, 1) := by decide +kernel
theorem dX2_passTick_17 : decode cX2_passTick 17 = .ok (.putfield 16, 3) := by decide +kernel
theorem dX2_passTick_20 : decode cX2_passTick 20 = .ok (.iload_n 2, 1) := by decide +kernel
theorem dX2_passTick_21 : decode cX2_passTick 21 = .ok (.iconst 2, 1) := by decide +kernel
theorem dX2_passTick_22 : decode cX2_passTick 22 = .ok (.if_icmp .lt 13, 3) := by decide +kernel
theorem dX2_passTick_25 : decode cX2_passTick 25 = .ok (.aload_n 0, 1) := by decide +kernel
theorem dX2_passTick_26 : decode cX2_passTick 26 = .ok (.dup, 1) := by decide +kernel
theorem dX2_passTick_27 : decode cX2_passTick 27 = .ok (.getfield 19, 3) := by decide +kernel
theorem dX2_passTick_30 : decode cX2_passTick 30 = .ok (.iconst 1, 1) := by decide +kernel
theorem dX2_passTick_31 : decode cX2_passTick 31 = .ok (.iadd, 1) := by decide +kernel
theorem dX2_passTick_32 : decode cX2_passTick 32 = .ok (.putfield 19, 3) := by decide +kernel
theorem dX2_passTick_35 : decode cX2_passTick 35 = .ok (.return_, 1) := by decide +kernel
theorem dX3_init_0 : decode cX3_init 0 = .ok (.aload_n 0, 1) := by decide +kernel
theorem dX3_init_1 : decode cX3_init 1 = .ok (.invokespecial 3, 3) := by decide +kernel
theorem dX3_init_4 : decode cX3_init 4 = .ok (.aload_n 0, 1) := by decide +kernel
theorem dX3_init_5 : decode cX3_init 5 = .ok (.bipush 6, 2) := by decide +kernel
theorem dX3_init_7 : decode cX3_init 7 = .ok (.anewarray 9, 3) := by decide +kernel
theorem dX3_init_10 : decode cX3_init 10 = .ok (.putfield 11, 3) := by decide +kernel
theorem dX3_init_13 : decode cX3_init 13 = .ok (.aload_n 0, 1) := by decide +kernel
theorem dX3_init_14 : decode cX3_init 14 = .ok (.iconst 4, 1) := by decide +kernel
theorem dX3_init_15 : decode cX3_init 15 = .ok (.anewarray 17, 3) := by decide +kernel
theorem dX3_init_18 : decode cX3_init 18 = .ok (.putfield 19, 3) := by decide +kernel
theorem dX3_init_21 : decode cX3_init 21 = .ok (.aload_n 0, 1) := by decide +kernel
theorem dX3_init_22 : decode cX3_init 22 = .ok (.iconst 1, 1) := by decide +kernel
theorem dX3_init_23 : decode cX3_init 23 = .ok (.putfield 23, 3) := by decide +kernel
theorem dX3_init_26 : decode cX3_init 26 = .ok (.iconst 0, 1) := by decide +kernel
theorem dX3_init_27 : decode cX3_init 27 = .ok (.istore_n 1, 1) := by decide +kernel
theorem dX3_init_28 : decode cX3_init 28 = .ok (.iload_n 1, 1) := by decide +kernel
theorem dX3_init_29 : decode cX3_init 29 = .ok (.aload_n 0, 1) := by decide +kernel
theorem dX3_init_30 : decode cX3_init 30 = .ok (.getfield 11, 3) := by decide +kernel
theorem dX3_init_33 : decode cX3_init 33 = .ok (.arraylength, 1) := by decide +kernel
theorem dX3_init_34 : decode cX3_init 34 = .ok (.if_icmp .ge 22, 3) := by decide +kernel
theorem dX3_init_37 : decode cX3_init 37 = .ok (.aload_n 0, 1) := by decide +kernel
theorem dX3_init_38 : decode cX3_init 38 = .ok (.getfield 11, 3) := by decide +kernel
theorem dX3_init_41 : decode cX3_init 41 = .ok (.iload_n 1, 1) := by decide +kernel
theorem dX3_init_42 : decode cX3_init 42 = .ok (.new 9, 3) := by decide +kernel
theorem dX3_init_45 : decode cX3_init 45 = .ok (.dup, 1) := by decide +kernel
theorem dX3_init_46 : decode cX3_init 46 = .ok (.invokespecial 27, 3) := by decide +kernel
theorem dX3_init_49 : decode cX3_init 49 = .ok (.aastore, 1) := by decide +kernel
theorem dX3_init_50 : decode cX3_init 50 = .ok (.iinc 1 1, 3) := by decide +kernel
theorem dX3_init_53 : decode cX3_init 53 = .ok (.goto (-25), 3) := by decide +kernel
theorem dX3_init_56 : decode cX3_init 56 = .ok (.iconst 0, 1) := by decide +kernel
theorem dX3_init_57 : decode cX3_init 57 = .ok (.istore_n 1, 1) := by decide +kernel
theorem dX3_init_58 : decode cX3_init 58 = .ok (.iload_n 1, 1) := by decide +kernel
theorem dX3_init_59 : decode cX3_init 59 = .ok (.aload_n 0, 1) := by decide +kernel
theorem dX3_init_60 : decode cX3_init 60 = .ok (.getfield 19, 3) := by decide +kernel
theorem dX3_init_63 : decode cX3_init 63 = .ok (.arraylength, 1) := by decide +kernel
theorem dX3_init_64 : decode cX3_init 64 = .ok (.if_icmp .ge 22, 3) := by decide +kernel
theorem dX3_init_67 : decode cX3_init 67 = .ok (.aload_n 0, 1) := by decide +kernel
theorem dX3_init_68 : decode cX3_init 68 = .ok (.getfield 19, 3) := by decide +kernel
theorem dX3_init_71 : decode cX3_init 71 = .ok (.iload_n 1, 1) := by decide +kernel
theorem dX3_init_72 : decode cX3_init 72 = .ok (.new 17, 3) := by decide +kernel
theorem dX3_init_75 : decode cX3_init 75 = .ok (.dup, 1) := by decide +kernel
theorem dX3_init_76 : decode cX3_init 76 = .ok (.invokespecial 28, 3) := by decide +kernel
theorem dX3_init_79 : decode cX3_init 79 = .ok (.aastore, 1) := by decide +kernel
theorem dX3_init_80 : decode cX3_init 80 = .ok (.iinc 1 1, 3) := by decide +kernel
theorem dX3_init_83 : decode cX3_init 83 = .ok (.goto (-25), 3) := by decide +kernel
theorem dX3_init_86 : decode cX3_init 86 = .ok (.return_, 1) := by decide +kernel
theorem dX3_copyFrom_0 : decode cX3_copyFrom 0 = .ok (.aload_n 0, 1) := by decide +kernel
theorem dX3_copyFrom_1 : decode cX3_copyFrom 1 = .ok (.aload_n 1, 1) := by decide +kernel
theorem dX3_copyFrom_2 : decode cX3_copyFrom 2 = .ok (.getfield 29, 3) := by decide +kernel
theorem dX3_copyFrom_5 : decode cX3_copyFrom 5 = .ok (.putfield 29, 3) := by decide +kernel
theorem dX3_copyFrom_8 : decode cX3_copyFrom 8 = .ok (.iconst 0, 1) := by decide +kernel
theorem dX3_copyFrom_9 : decode cX3_copyFrom 9 = .ok (.istore_n 2, 1) := by decide +kernel
theorem dX3_copyFrom_10 : decode cX3_copyFrom 10 = .ok (.iload_n 2, 1) := by decide +kernel
theorem dX3_copyFrom_11 : decode cX3_copyFrom 11 = .ok (.aload_n 0, 1) := by decide +kernel
theorem dX3_copyFrom_12 : decode cX3_copyFrom 12 = .ok (.getfield 29, 3) := by decide +kernel
theorem dX3_copyFrom_15 : decode cX3_copyFrom 15 = .ok (.if_icmp .ge 30, 3) := by decide +kernel
theorem dX3_copyFrom_18 : decode cX3_copyFrom 18 = .ok (.iload_n 2, 1) := by decide +kernel
theorem dX3_copyFrom_19 : decode cX3_copyFrom 19 = .ok (.bipush 6, 2) := by decide +kernel
theorem dX3_copyFrom_21 : decode cX3_copyFrom 21 = .ok (.if_icmp .ge 24, 3) := by decide +kernel
theorem dX3_copyFrom_24 : decode cX3_copyFrom 24 = .ok (.aload_n 0, 1) := by decide +kernel
theorem dX3_copyFrom_25 : decode cX3_copyFrom 25 = .ok (.getfield 11, 3) := by decide +kernel
theorem dX3_copyFrom_28 : decode cX3_copyFrom 28 = .ok (.iload_n 2, 1) := by decide +kernel
theorem dX3_copyFrom_29 : decode cX3_copyFrom 29 = .ok (.aaload, 1) := by decide +kernel
theorem dX3_copyFrom_30 : decode cX3_copyFrom 30 = .ok (.aload_n 1, 1) := by decide +kernel
theorem dX3_copyFrom_31 : decode cX3_copyFrom 31 = .ok (.getfield 11, 3) := by decide +kernel
theorem dX3_copyFrom_34 : decode cX3_copyFrom 34 = .ok (.iload_n 2, 1) := by decide +kernel
theorem dX3_copyFrom_35 : decode cX3_copyFrom 35 = .ok (.aaload, 1) := by decide +kernel
theorem dX3_copyFrom_36 : decode cX3_copyFrom 36 = .ok (.invokevirtual 32, 3) := by decide +kernel
theorem dX3_copyFrom_39 : decode cX3_copyFrom 39 = .ok (.iinc 2 1, 3) := by decide +kernel
theorem dX3_copyFrom_42 : decode cX3_copyFrom 42 = .ok (.goto (-32), 3) := by decide +kernel
theorem dX3_copyFrom_45 : decode cX3_copyFrom 45 = .ok (.aload_n 0, 1) := by decide +kernel
theorem dX3_copyFrom_46 : decode cX3_copyFrom 46 = .ok (.aload_n 1, 1) := by decide +kernel
theorem dX3_copyFrom_47 : decode cX3_copyFrom 47 = .ok (.getfield 36, 3) := by decide +kernel
theorem dX3_copyFrom_50 : decode cX3_copyFrom 50 = .ok (.putfield 36, 3) := by decide +kernel
theorem dX3_copyFrom_53 : decode cX3_copyFrom 53 = .ok (.iconst 0, 1) := by decide +kernel
theorem dX3_copyFrom_54 : decode cX3_copyFrom 54 = .ok (.istore_n 2, 1) := by decide +kernel
theorem dX3_copyFrom_55 : decode cX3_copyFrom 55 = .ok (.iload_n 2, 1) := by decide +kernel
theorem dX3_copyFrom_56 : decode cX3_copyFrom 56 = .ok (.aload_n 0, 1) := by decide +kernel
theorem dX3_copyFrom_57 : decode cX3_copyFrom 57 = .ok (.getfield 36, 3) := by decide +kernel
theorem dX3_copyFrom_60 : decode cX3_copyFrom 60 = .ok (.if_icmp .ge 29, 3) := by decide +kernel
theorem dX3_copyFrom_63 : decode cX3_copyFrom 63 = .ok (.iload_n 2, 1) := by decide +kernel
theorem dX3_copyFrom_64 : decode cX3_copyFrom 64 = .ok (.iconst 4, 1) := by decide +kernel
theorem dX3_copyFrom_65 : decode cX3_copyFrom 65 = .ok (.if_icmp .ge 24, 3) := by decide +kernel
theorem dX3_copyFrom_68 : decode cX3_copyFrom 68 = .ok (.aload_n 0, 1) := by decide +kernel
theorem dX3_copyFrom_69 : decode cX3_copyFrom 69 = .ok (.getfield 19, 3) := by decide +kernel
theorem dX3_copyFrom_72 : decode cX3_copyFrom 72 = .ok (.iload_n 2, 1) := by decide +kernel
theorem dX3_copyFrom_73 : decode cX3_copyFrom 73 = .ok (.aaload, 1) := by decide +kernel
theorem dX3_copyFrom_74 : decode cX3_copyFrom 74 = .ok (.aload_n 1, 1) := by decide +kernel
theorem dX3_copyFrom_75 : decode cX3_copyFrom 75 = .ok (.getfield 19, 3) := by decide +kernel
theorem dX3_copyFrom_78 : decode cX3_copyFrom 78 = .ok (.iload_n 2, 1) := by decide +kernel
theorem dX3_copyFrom_79 : decode cX3_copyFrom 79 = .ok (.aaload, 1) := by decide +kernel
theorem dX3_copyFrom_80 : decode cX3_copyFrom 80 = .ok (.invokevirtual 39, 3) := by decide +kernel
theorem dX3_copyFrom_83 : decode cX3_copyFrom 83 = .ok (.iinc 2 1, 3) := by decide +kernel
theorem dX3_copyFrom_86 : decode cX3_copyFrom 86 = .ok (.goto (-31), 3) := by decide +kernel
theorem dX3_copyFrom_89 : decode cX3_copyFrom 89 = .ok (.aload_n 0, 1) := by decide +kernel
theorem dX3_copyFrom_90 : decode cX3_copyFrom 90 = .ok (.aload_n 1, 1) := by decide +kernel
theorem dX3_copyFrom_91 : decode cX3_copyFrom 91 = .ok (.getfield 42, 3) := by decide +kernel
theorem dX3_copyFrom_94 : decode cX3_copyFrom 94 = .ok (.putfield 42, 3) := by decide +kernel
theorem dX3_copyFrom_97 : decode cX3_copyFrom 97 = .ok (.aload_n 0, 1) := by decide +kernel
theorem dX3_copyFrom_98 : decode cX3_copyFrom 98 = .ok (.aload_n 1, 1) := by decide +kernel
theorem dX3_copyFrom_99 : decode cX3_copyFrom 99 = .ok (.getfield 23, 3) := by decide +kernel
theorem dX3_copyFrom_102 : decode cX3_copyFrom 102 = .ok (.putfield 23, 3) := by decide +kernel
theorem dX3_copyFrom_105 : decode cX3_copyFrom 105 = .ok (.return_, 1) := by decide +kernel
theorem dX3_clockAt_0 : decode cX3_clockAt 0 = .ok (.iload_n 1, 1) := by decide +kernel
theorem dX3_clockAt_1 : decode cX3_clockAt 1 = .ok (.ifCond .lt 20, 3) := by decide +kernel
theorem dX3_clockAt_4 : decode cX3_clockAt 4 = .ok (.iload_n 1, 1) := by decide +kernel
theorem dX3_clockAt_5 : decode cX3_clockAt 5 = .ok (.aload_n 0, 1) := by decide +kernel
theorem dX3_clockAt_6 : decode cX3_clockAt 6 = .ok (.getfield 29, 3) := by decide +kernel
theorem dX3_clockAt_9 : decode cX3_clockAt 9 = .ok (.if_icmp .ge 12, 3) := by decide +kernel
theorem dX3_clockAt_12 : decode cX3_clockAt 12 = .ok (.iload_n 1, 1) := by decide +kernel
theorem dX3_clockAt_13 : decode cX3_clockAt 13 = .ok (.aload_n 0, 1) := by decide +kernel
theorem dX3_clockAt_14 : decode cX3_clockAt 14 = .ok (.getfield 11, 3) := by decide +kernel
theorem dX3_clockAt_17 : decode cX3_clockAt 17 = .ok (.arraylength, 1) := by decide +kernel
theorem dX3_clockAt_18 : decode cX3_clockAt 18 = .ok (.if_icmp .lt 5, 3) := by decide +kernel
theorem dX3_clockAt_21 : decode cX3_clockAt 21 = .ok (.aconst_null, 1) := by decide +kernel
theorem dX3_clockAt_22 : decode cX3_clockAt 22 = .ok (.areturn, 1) := by decide +kernel
theorem dX3_clockAt_23 : decode cX3_clockAt 23 = .ok (.aload_n 0, 1) := by decide +kernel
theorem dX3_clockAt_24 : decode cX3_clockAt 24 = .ok (.getfield 11, 3) := by decide +kernel
theorem dX3_clockAt_27 : decode cX3_clockAt 27 = .ok (.iload_n 1, 1) := by decide +kernel
theorem dX3_clockAt_28 : decode cX3_clockAt 28 = .ok (.aaload, 1) := by decide +kernel
theorem dX3_clockAt_29 : decode cX3_clockAt 29 = .ok (.areturn, 1) := by decide +kernel
theorem dX3_groupAt_0 : decode cX3_groupAt 0 = .ok (.iload_n 1, 1) := by decide +kernel
theorem dX3_groupAt_1 : decode cX3_groupAt 1 = .ok (.ifCond .lt 20, 3) := by decide +kernel
theorem dX3_groupAt_4 : decode cX3_groupAt 4 = .ok (.iload_n 1, 1) := by decide +kernel
theorem dX3_groupAt_5 : decode cX3_groupAt 5 = .ok (.aload_n 0, 1) := by decide +kernel
theorem dX3_groupAt_6 : decode cX3_groupAt 6 = .ok (.getfield 36, 3) := by decide +kernel
theorem dX3_groupAt_9 : decode cX3_groupAt 9 = .ok (.if_icmp .ge 12, 3) := by decide +kernel
theorem dX3_groupAt_12 : decode cX3_groupAt 12 = .ok (.iload_n 1, 1) := by decide +kernel
theorem dX3_groupAt_13 : decode cX3_groupAt 13 = .ok (.aload_n 0, 1) := by decide +kernel
theorem dX3_groupAt_14 : decode cX3_groupAt 14 = .ok (.getfield 19, 3) := by decide +kernel
theorem dX3_groupAt_17 : decode cX3_groupAt 17 = .ok (.arraylength, 1) := by decide +kernel
theorem dX3_groupAt_18 : decode cX3_groupAt 18 = .ok (.if_icmp .lt 5, 3) := by decide +kernel
theorem dX3_groupAt_21 : decode cX3_groupAt 21 = .ok (.aconst_null, 1) := by decide +kernel
theorem dX3_groupAt_22 : decode cX3_groupAt 22 = .ok (.areturn, 1) := by decide +kernel
theorem dX3_groupAt_23 : decode cX3_groupAt 23 = .ok (.aload_n 0, 1) := by decide +kernel
theorem dX3_groupAt_24 : decode cX3_groupAt 24 = .ok (.getfield 19, 3) := by decide +kernel
theorem dX3_groupAt_27 : decode cX3_groupAt 27 = .ok (.iload_n 1, 1) := by decide +kernel
theorem dX3_groupAt_28 : decode cX3_groupAt 28 = .ok (.aaload, 1) := by decide +kernel
theorem dX3_groupAt_29 : decode cX3_groupAt 29 = .ok (.areturn, 1) := by decide +kernel
theorem dX3_addClock_0 : decode cX3_addClock 0 = .ok (.iload_n 1, 1) := by decide +kernel
theorem dX3_addClock_1 : decode cX3_addClock 1 = .ok (.iload_n 2, 1) := by decide +kernel
theorem dX3_addClock_2 : decode cX3_addClock 2 = .ok (.iload_n 3, 1) := by decide +kernel
theorem dX3_addClock_3 : decode cX3_addClock 3 = .ok (.iload 4, 2) := by decide +kernel
theorem dX3_addClock_5 : decode cX3_addClock 5 = .ok (.iload 5, 2) := by decide +kernel
theorem dX3_addClock_7 : decode cX3_addClock 7 = .ok (.invokestatic 45, 3) := by decide +kernel
theorem dX3_addClock_10 : decode cX3_addClock 10 = .ok (.ifCond .ne 6, 3) := by decide +kernel
theorem dX3_addClock_13 : decode cX3_addClock 13 = .ok (.ldc 49, 2) := by decide +kernel
theorem dX3_addClock_15 : decode cX3_addClock 15 = .ok (.ireturn, 1) := by decide +kernel
theorem dX3_addClock_16 : decode cX3_addClock 16 = .ok (.aload_n 0, 1) := by decide +kernel
theorem dX3_addClock_17 : decode cX3_addClock 17 = .ok (.getfield 29, 3) := by decide +kernel
theorem dX3_addClock_20 : decode cX3_addClock 20 = .ok (.aload_n 0, 1) := by decide +kernel
theorem dX3_addClock_21 : decode cX3_addClock 21 = .ok (.getfield 11, 3) := by decide +kernel
theorem dX3_addClock_24 : decode cX3_addClock 24 = .ok (.arraylength, 1) := by decide +kernel
theorem dX3_addClock_25 : decode cX3_addClock 25 = .ok (.if_icmp .lt 6, 3) := by decide +kernel
theorem dX3_addClock_28 : decode cX3_addClock 28 = .ok (.ldc 50, 2) := by decide +kernel
theorem dX3_addClock_30 : decode cX3_addClock 30 = .ok (.ireturn, 1) := by decide +kernel
theorem dX3_addClock_31 : decode cX3_addClock 31 = .ok (.aload_n 0, 1) := by decide +kernel
theorem dX3_addClock_32 : decode cX3_addClock 32 = .ok (.getfield 11, 3) := by decide +kernel
theorem dX3_addClock_35 : decode cX3_addClock 35 = .ok (.aload_n 0, 1) := by decide +kernel
theorem dX3_addClock_36 : decode cX3_addClock 36 = .ok (.getfield 29, 3) := by decide +kernel
theorem dX3_addClock_39 : decode cX3_addClock 39 = .ok (.aaload, 1) := by decide +kernel
theorem dX3_addClock_40 : decode cX3_addClock 40 = .ok (.astore 6, 2) := by decide +kernel
theorem dX3_addClock_42 : decode cX3_addClock 42 = .ok (.aload 6, 2) := by decide +kernel
theorem dX3_addClock_44 : decode cX3_addClock 44 = .ok (.iload_n 1, 1) := by decide +kernel
theorem dX3_addClock_45 : decode cX3_addClock 45 = .ok (.iload_n 2, 1) := by decide +kernel
theorem dX3_addClock_46 : decode cX3_addClock 46 = .ok (.iload_n 3, 1) := by decide +kernel
theorem dX3_addClock_47 : decode cX3_addClock 47 = .ok (.iload 4, 2) := by decide +kernel
theorem dX3_addClock_49 : decode cX3_addClock 49 = .ok (.iload 5, 2) := by decide +kernel
theorem dX3_addClock_51 : decode cX3_addClock 51 = .ok (.invokevirtual 51, 3) := by decide +kernel
theorem dX3_addClock_54 : decode cX3_addClock 54 = .ok (.aload_n 0, 1) := by decide +kernel
theorem dX3_addClock_55 : decode cX3_addClock 55 = .ok (.aload 6, 2) := by decide +kernel
theorem dX3_addClock_57 : decode cX3_addClock 57 = .ok (.invokevirtual 55, 3) := by decide +kernel
theorem dX3_addClock_60 : decode cX3_addClock 60 = .ok (.aload_n 0, 1) := by decide +kernel
theorem dX3_addClock_61 : decode cX3_addClock 61 = .ok (.dup, 1) := by decide +kernel
theorem dX3_addClock_62 : decode cX3_addClock 62 = .ok (.getfield 29, 3) := by decide +kernel
theorem dX3_addClock_65 : decode cX3_addClock 65 = .ok (.iconst 1, 1) := by decide +kernel
theorem dX3_addClock_66 : decode cX3_addClock 66 = .ok (.iadd, 1) := by decide +kernel
theorem dX3_addClock_67 : decode cX3_addClock 67 = .ok (.putfield 29, 3) := by decide +kernel
theorem dX3_addClock_70 : decode cX3_addClock 70 = .ok (.aload_n 0, 1) := by decide +kernel
theorem dX3_addClock_71 : decode cX3_addClock 71 = .ok (.getfield 29, 3) := by decide +kernel
theorem dX3_addClock_74 : decode cX3_addClock 74 = .ok (.iconst 1, 1) := by decide +kernel
theorem dX3_addClock_75 : decode cX3_addClock 75 = .ok (.isub, 1) := by decide +kernel
theorem dX3_addClock_76 : decode cX3_addClock 76 = .ok (.ireturn, 1) := by decide +kernel
theorem dX3_windClock_0 : decode cX3_windClock 0 = .ok (.aload_n 0, 1) := by decide +kernel
theorem dX3_windClock_1 : decode cX3_windClock 1 = .ok (.iload_n 1, 1) := by decide +kernel
theorem dX3_windClock_2 : decode cX3_windClock 2 = .ok (.invokevirtual 58, 3) := by decide +kernel
theorem dX3_windClock_5 : decode cX3_windClock 5 = .ok (.astore_n 2, 1) := by decide +kernel
theorem dX3_windClock_6 : decode cX3_windClock 6 = .ok (.aload_n 2, 1) := by decide +kernel
theorem dX3_windClock_7 : decode cX3_windClock 7 = .ok (.ifnonnull 6, 3) := by decide +kernel
theorem dX3_windClock_10 : decode cX3_windClock 10 = .ok (.ldc 49, 2) := by decide +kernel
theorem dX3_windClock_12 : decode cX3_windClock 12 = .ok (.ireturn, 1) := by decide +kernel
theorem dX3_windClock_13 : decode cX3_windClock 13 = .ok (.aload_n 0, 1) := by decide +kernel
theorem dX3_windClock_14 : decode cX3_windClock 14 = .ok (.aload_n 2, 1) := by decide +kernel
theorem dX3_windClock_15 : decode cX3_windClock 15 = .ok (.invokevirtual 55, 3) := by decide +kernel
theorem dX3_windClock_18 : decode cX3_windClock 18 = .ok (.aload_n 2, 1) := by decide +kernel
theorem dX3_windClock_19 : decode cX3_windClock 19 = .ok (.dup, 1) := by decide +kernel
theorem dX3_windClock_20 : decode cX3_windClock 20 = .ok (.getfield 62, 3) := by decide +kernel
theorem dX3_windClock_23 : decode cX3_windClock 23 = .ok (.iconst 1, 1) := by decide +kernel
theorem dX3_windClock_24 : decode cX3_windClock 24 = .ok (.iadd, 1) := by decide +kernel
theorem dX3_windClock_25 : decode cX3_windClock 25 = .ok (.putfield 62, 3) := by decide +kernel
theorem dX3_windClock_28 : decode cX3_windClock 28 = .ok (.aload_n 2, 1) := by decide +kernel
theorem dX3_windClock_29 : decode cX3_windClock 29 = .ok (.getfield 65, 3) := by decide +kernel
theorem dX3_windClock_32 : decode cX3_windClock 32 = .ok (.ireturn, 1) := by decide +kernel
theorem dX3_beginGap_0 : decode cX3_beginGap 0 = .ok (.aload_n 1, 1) := by decide +kernel
theorem dX3_beginGap_1 : decode cX3_beginGap 1 = .ok (.aload_n 1, 1) := by decide +kernel
theorem dX3_beginGap_2 : decode cX3_beginGap 2 = .ok (.getfield 68, 3) := by decide +kernel
theorem dX3_beginGap_5 : decode cX3_beginGap 5 = .ok (.iconst 1, 1) := by decide +kernel
theorem dX3_beginGap_6 : decode cX3_beginGap 6 = .ok (.if_icmp .ne 17, 3) := by decide +kernel
theorem dX3_beginGap_9 : decode cX3_beginGap 9 = .ok (.aload_n 0, 1) := by decide +kernel
theorem dX3_beginGap_10 : decode cX3_beginGap 10 = .ok (.aload_n 1, 1) := by decide +kernel
theorem dX3_beginGap_11 : decode cX3_beginGap 11 = .ok (.getfield 71, 3) := by decide +kernel
theorem dX3_beginGap_14 : decode cX3_beginGap 14 = .ok (.getfield 75, 3) := by decide +kernel
theorem dX3_beginGap_17 : decode cX3_beginGap 17 = .ok (.invokevirtual 80, 3) := by decide +kernel
theorem dX3_beginGap_20 : decode cX3_beginGap 20 = .ok (.goto 7, 3) := by decide +kernel
theorem dX3_beginGap_23 : decode cX3_beginGap 23 = .ok (.aload_n 1, 1) := by decide +kernel
theorem dX3_beginGap_24 : decode cX3_beginGap 24 = .ok (.invokevirtual 84, 3) := by decide +kernel
theorem dX3_beginGap_27 : decode cX3_beginGap 27 = .ok (.invokevirtual 88, 3) := by decide +kernel
theorem dX3_beginGap_30 : decode cX3_beginGap 30 = .ok (.return_, 1) := by decide +kernel
theorem dX3_draw_0 : decode cX3_draw 0 = .ok (.aload_n 0, 1) := by decide +kernel
theorem dX3_draw_1 : decode cX3_draw 1 = .ok (.aload_n 0, 1) := by decide +kernel
theorem dX3_draw_2 : decode cX3_draw 2 = .ok (.getfield 23, 3) := by decide +kernel
theorem dX3_draw_5 : decode cX3_draw 5 = .ok (.sipush 421, 3) := by decide +kernel
theorem dX3_draw_8 : decode cX3_draw 8 = .ok (.imul, 1) := by decide +kernel
theorem dX3_draw_9 : decode cX3_draw 9 = .ok (.sipush 1663, 3) := by decide +kernel
theorem dX3_draw_12 : decode cX3_draw 12 = .ok (.iadd, 1) := by decide +kernel
theorem dX3_draw_13 : decode cX3_draw 13 = .ok (.sipush 10000, 3) := by decide +kernel
theorem dX3_draw_16 : decode cX3_draw 16 = .ok (.irem, 1) := by decide +kernel
theorem dX3_draw_17 : decode cX3_draw 17 = .ok (.putfield 23, 3) := by decide +kernel
theorem dX3_draw_20 : decode cX3_draw 20 = .ok (.iload_n 1, 1) := by decide +kernel
theorem dX3_draw_21 : decode cX3_draw 21 = .ok (.ifCond .le 12, 3) := by decide +kernel
theorem dX3_draw_24 : decode cX3_draw 24 = .ok (.aload_n 0, 1) := by decide +kernel
theorem dX3_draw_25 : decode cX3_draw 25 = .ok (.getfield 23, 3) := by decide +kernel
theorem dX3_draw_28 : decode cX3_draw 28 = .ok (.iload_n 1, 1) := by decide +kernel
theorem dX3_draw_29 : decode cX3_draw 29 = .ok (.irem, 1) := by decide +kernel
theorem dX3_draw_30 : decode cX3_draw 30 = .ok (.goto 4, 3) := by decide +kernel
theorem dX3_draw_33 : decode cX3_draw 33 = .ok (.iconst 0, 1) := by decide +kernel
theorem dX3_draw_34 : decode cX3_draw 34 = .ok (.ireturn, 1) := by decide +kernel
theorem dX3_endTicks_0 : decode cX3_endTicks 0 = .ok (.iload_n 1, 1) := by decide +kernel
theorem dX3_endTicks_1 : decode cX3_endTicks 1 = .ok (.iconst 1, 1) := by decide +kernel
theorem dX3_endTicks_2 : decode cX3_endTicks 2 = .ok (.if_icmp .lt 10, 3) := by decide +kernel
theorem dX3_endTicks_5 : decode cX3_endTicks 5 = .ok (.iload_n 1, 1) := by decide +kernel
theorem dX3_endTicks_6 : decode cX3_endTicks 6 = .ok (.sipush 200, 3) := by decide +kernel
theorem dX3_endTicks_9 : decode cX3_endTicks 9 = .ok (.if_icmp .le 6, 3) := by decide +kernel
theorem dX3_endTicks_12 : decode cX3_endTicks 12 = .ok (.ldc 49, 2) := by decide +kernel
theorem dX3_endTicks_14 : decode cX3_endTicks 14 = .ok (.ireturn, 1) := by decide +kernel
theorem dX3_endTicks_15 : decode cX3_endTicks 15 = .ok (.aload_n 0, 1) := by decide +kernel
theorem dX3_endTicks_16 : decode cX3_endTicks 16 = .ok (.getfield 42, 3) := by decide +kernel
theorem dX3_endTicks_19 : decode cX3_endTicks 19 = .ok (.iload_n 1, 1) := by decide +kernel
theorem dX3_endTicks_20 : decode cX3_endTicks 20 = .ok (.iadd, 1) := by decide +kernel
theorem dX3_endTicks_21 : decode cX3_endTicks 21 = .ok (.ldc 92, 2) := by decide +kernel
theorem dX3_endTicks_23 : decode cX3_endTicks 23 = .ok (.if_icmp .le 6, 3) := by decide +kernel
theorem dX3_endTicks_26 : decode cX3_endTicks 26 = .ok (.ldc 50, 2) := by decide +kernel
theorem dX3_endTicks_28 : decode cX3_endTicks 28 = .ok (.ireturn, 1) := by decide +kernel
theorem dX3_endTicks_29 : decode cX3_endTicks 29 = .ok (.iconst 0, 1) := by decide +kernel
theorem dX3_endTicks_30 : decode cX3_endTicks 30 = .ok (.istore_n 2, 1) := by decide +kernel
theorem dX3_endTicks_31 : decode cX3_endTicks 31 = .ok (.iconst 0, 1) := by decide +kernel
theorem dX3_endTicks_32 : decode cX3_endTicks 32 = .ok (.istore_n 3, 1) := by decide +kernel
theorem dX3_endTicks_33 : decode cX3_endTicks 33 = .ok (.iload_n 3, 1) := by decide +kernel
theorem dX3_endTicks_34 : decode cX3_endTicks 34 = .ok (.iload_n 1, 1) := by decide +kernel
theorem dX3_endTicks_35 : decode cX3_endTicks 35 = .ok (.if_icmp .ge 16, 3) := by decide +kernel
theorem dX3_endTicks_38 : decode cX3_endTicks 38 = .ok (.iload_n 2, 1) := by decide +kernel
theorem dX3_endTicks_39 : decode cX3_endTicks 39 = .ok (.aload_n 0, 1) := by decide +kernel
theorem dX3_endTicks_40 : decode cX3_endTicks 40 = .ok (.invokevirtual 93, 3) := by decide +kernel
theorem dX3_endTicks_43 : decode cX3_endTicks 43 = .ok (.iadd, 1) := by decide +kernel
theorem dX3_endTicks_44 : decode cX3_endTicks 44 = .ok (.istore_n 2, 1) := by decide +kernel
theorem dX3_endTicks_45 : decode cX3_endTicks 45 = .ok (.iinc 3 1, 3) := by decide +kernel
theorem dX3_endTicks_48 : decode cX3_endTicks 48 = .ok (.goto (-15), 3) := by decide +kernel
theorem dX3_endTicks_51 : decode cX3_endTicks 51 = .ok (.iload_n 2, 1) := by decide +kernel
theorem dX3_endTicks_52 : decode cX3_endTicks 52 = .ok (.ireturn, 1) := by decide +kernel
theorem dX3_endTick_0 : decode cX3_endTick 0 = .ok (.aload_n 0, 1) := by decide +kernel
theorem dX3_endTick_1 : decode cX3_endTick 1 = .ok (.dup, 1) := by decide +kernel
theorem dX3_endTick_2 : decode cX3_endTick 2 = .ok (.getfield 42, 3) := by decide +kernel
theorem dX3_endTick_5 : decode cX3_endTick 5 = .ok (.iconst 1, 1) := by decide +kernel
theorem dX3_endTick_6 : decode cX3_endTick 6 = .ok (.iadd, 1) := by decide +kernel
theorem dX3_endTick_7 : decode cX3_endTick 7 = .ok (.putfield 42, 3) := by decide +kernel
theorem dX3_endTick_10 : decode cX3_endTick 10 = .ok (.iconst 0, 1) := by decide +kernel
theorem dX3_endTick_11 : decode cX3_endTick 11 = .ok (.istore_n 1, 1) := by decide +kernel
theorem dX3_endTick_12 : decode cX3_endTick 12 = .ok (.iconst 0, 1) := by decide +kernel
theorem dX3_endTick_13 : decode cX3_endTick 13 = .ok (.istore_n 2, 1) := by decide +kernel
theorem dX3_endTick_14 : decode cX3_endTick 14 = .ok (.iload_n 2, 1) := by decide +kernel
theorem dX3_endTick_15 : decode cX3_endTick 15 = .ok (.aload_n 0, 1) := by decide +kernel
theorem dX3_endTick_16 : decode cX3_endTick 16 = .ok (.getfield 29, 3) := by decide +kernel
theorem dX3_endTick_19 : decode cX3_endTick 19 = .ok (.if_icmp .ge 46, 3) := by decide +kernel
theorem dX3_endTick_22 : decode cX3_endTick 22 = .ok (.iload_n 2, 1) := by decide +kernel
theorem dX3_endTick_23 : decode cX3_endTick 23 = .ok (.aload_n 0, 1) := by decide +kernel
theorem dX3_endTick_24 : decode cX3_endTick 24 = .ok (.getfield 11, 3) := by decide +kernel
theorem dX3_endTick_27 : decode cX3_endTick 27 = .ok (.arraylength, 1) := by decide +kernel
theorem dX3_endTick_28 : decode cX3_endTick 28 = .ok (.if_icmp .ge 37, 3) := by decide +kernel
theorem dX3_endTick_31 : decode cX3_endTick 31 = .ok (.aload_n 0, 1) := by decide +kernel
theorem dX3_endTick_32 : decode cX3_endTick 32 = .ok (.getfield 11, 3) := by decide +kernel
theorem dX3_endTick_35 : decode cX3_endTick 35 = .ok (.iload_n 2, 1) := by decide +kernel
theorem dX3_endTick_36 : decode cX3_endTick 36 = .ok (.aaload, 1) := by decide +kernel
theorem dX3_endTick_37 : decode cX3_endTick 37 = .ok (.invokevirtual 96, 3) := by decide +kernel
theorem dX3_endTick_40 : decode cX3_endTick 40 = .ok (.ifCond .eq 19, 3) := by decide +kernel
theorem dX3_endTick_43 : decode cX3_endTick 43 = .ok (.iload_n 1, 1) := by decide +kernel
theorem dX3_endTick_44 : decode cX3_endTick 44 = .ok (.iconst 1, 1) := by decide +kernel
theorem dX3_endTick_45 : decode cX3_endTick 45 = .ok (.iload_n 2, 1) := by decide +kernel
theorem dX3_endTick_46 : decode cX3_endTick 46 = .ok (.ishl, 1) := by decide +kernel
theorem dX3_endTick_47 : decode cX3_endTick 47 = .ok (.ior, 1) := by decide +kernel
theorem dX3_endTick_48 : decode cX3_endTick 48 = .ok (.istore_n 1, 1) := by decide +kernel
theorem dX3_endTick_49 : decode cX3_endTick 49 = .ok (.aload_n 0, 1) := by decide +kernel
theorem dX3_endTick_50 : decode cX3_endTick 50 = .ok (.aload_n 0, 1) := by decide +kernel
theorem dX3_endTick_51 : decode cX3_endTick 51 = .ok (.getfield 11, 3) := by decide +kernel
theorem dX3_endTick_54 : decode cX3_endTick 54 = .ok (.iload_n 2, 1) := by decide +kernel
theorem dX3_endTick_55 : decode cX3_endTick 55 = .ok (.aaload, 1) := by decide +kernel
theorem dX3_endTick_56 : decode cX3_endTick 56 = .ok (.invokevirtual 55, 3) := by decide +kernel
theorem dX3_endTick_59 : decode cX3_endTick 59 = .ok (.iinc 2 1, 3) := by decide +kernel
theorem dX3_endTick_62 : decode cX3_endTick 62 = .ok (.goto (-48), 3) := by decide +kernel
theorem dX3_endTick_65 : decode cX3_endTick 65 = .ok (.iconst 0, 1) := by decide +kernel
theorem dX3_endTick_66 : decode cX3_endTick 66 = .ok (.istore_n 2, 1) := by decide +kernel
theorem dX3_endTick_67 : decode cX3_endTick 67 = .ok (.iload_n 2, 1) := by decide +kernel
theorem dX3_endTick_68 : decode cX3_endTick 68 = .ok (.aload_n 0, 1) := by decide +kernel
theorem dX3_endTick_69 : decode cX3_endTick 69 = .ok (.getfield 36, 3) := by decide +kernel
theorem dX3_endTick_72 : decode cX3_endTick 72 = .ok (.if_icmp .ge 28, 3) := by decide +kernel
theorem dX3_endTick_75 : decode cX3_endTick 75 = .ok (.iload_n 2, 1) := by decide +kernel
theorem dX3_endTick_76 : decode cX3_endTick 76 = .ok (.aload_n 0, 1) := by decide +kernel
theorem dX3_endTick_77 : decode cX3_endTick 77 = .ok (.getfield 19, 3) := by decide +kernel
theorem dX3_endTick_80 : decode cX3_endTick 80 = .ok (.arraylength, 1) := by decide +kernel
theorem dX3_endTick_81 : decode cX3_endTick 81 = .ok (.if_icmp .ge 19, 3) := by decide +kernel
theorem dX3_endTick_84 : decode cX3_endTick 84 = .ok (.aload_n 0, 1) := by decide +kernel
theorem dX3_endTick_85 : decode cX3_endTick 85 = .ok (.getfield 19, 3) := by decide +kernel
theorem dX3_endTick_88 : decode cX3_endTick 88 = .ok (.iload_n 2, 1) := by decide +kernel
theorem dX3_endTick_89 : decode cX3_endTick 89 = .ok (.aaload, 1) := by decide +kernel
theorem dX3_endTick_90 : decode cX3_endTick 90 = .ok (.iload_n 1, 1) := by decide +kernel
theorem dX3_endTick_91 : decode cX3_endTick 91 = .ok (.invokevirtual 100, 3) := by decide +kernel
theorem dX3_endTick_94 : decode cX3_endTick 94 = .ok (.iinc 2 1, 3) := by decide +kernel
theorem dX3_endTick_97 : decode cX3_endTick 97 = .ok (.goto (-30), 3) := by decide +kernel
theorem dX3_endTick_100 : decode cX3_endTick 100 = .ok (.iload_n 1, 1) := by decide +kernel
theorem dX3_endTick_101 : decode cX3_endTick 101 = .ok (.invokestatic 102, 3) := by decide +kernel
theorem dX3_endTick_104 : decode cX3_endTick 104 = .ok (.ireturn, 1) := by decide +kernel
theorem dX3_addPassenger_0 : decode cX3_addPassenger 0 = .ok (.aload_n 0, 1) := by decide +kernel
theorem dX3_addPassenger_1 : decode cX3_addPassenger 1 = .ok (.iload_n 1, 1) := by decide +kernel
theorem dX3_addPassenger_2 : decode cX3_addPassenger 2 = .ok (.invokevirtual 58, 3) := by decide +kernel
theorem dX3_addPassenger_5 : decode cX3_addPassenger 5 = .ok (.astore_n 2, 1) := by decide +kernel
theorem dX3_addPassenger_6 : decode cX3_addPassenger 6 = .ok (.aload_n 2, 1) := by decide +kernel
theorem dX3_addPassenger_7 : decode cX3_addPassenger 7 = .ok (.ifnonnull 6, 3) := by decide +kernel
theorem dX3_addPassenger_10 : decode cX3_addPassenger 10 = .ok (.ldc 49, 2) := by decide +kernel
theorem dX3_addPassenger_12 : decode cX3_addPassenger 12 = .ok (.ireturn, 1) := by decide +kernel
theorem dX3_addPassenger_13 : decode cX3_addPassenger 13 = .ok (.aload_n 2, 1) := by decide +kernel
theorem dX3_addPassenger_14 : decode cX3_addPassenger 14 = .ok (.dup, 1) := by decide +kernel
theorem dX3_addPassenger_15 : decode cX3_addPassenger 15 = .ok (.getfield 107, 3) := by decide +kernel
theorem dX3_addPassenger_18 : decode cX3_addPassenger 18 = .ok (.iconst 1, 1) := by decide +kernel
theorem dX3_addPassenger_19 : decode cX3_addPassenger 19 = .ok (.iadd, 1) := by decide +kernel
theorem dX3_addPassenger_20 : decode cX3_addPassenger 20 = .ok (.putfield 107, 3) := by decide +kernel
theorem dX3_addPassenger_23 : decode cX3_addPassenger 23 = .ok (.aload_n 2, 1) := by decide +kernel
theorem dX3_addPassenger_24 : decode cX3_addPassenger 24 = .ok (.dup, 1) := by decide +kernel
theorem dX3_addPassenger_25 : decode cX3_addPassenger 25 = .ok (.getfield 110, 3) := by decide +kernel
theorem dX3_addPassenger_28 : decode cX3_addPassenger 28 = .ok (.aload_n 2, 1) := by decide +kernel
theorem dX3_addPassenger_29 : decode cX3_addPassenger 29 = .ok (.getfield 113, 3) := by decide +kernel
theorem dX3_addPassenger_32 : decode cX3_addPassenger 32 = .ok (.iadd, 1) := by decide +kernel
theorem dX3_addPassenger_33 : decode cX3_addPassenger 33 = .ok (.putfield 110, 3) := by decide +kernel
theorem dX3_addPassenger_36 : decode cX3_addPassenger 36 = .ok (.aload_n 2, 1) := by decide +kernel
theorem dX3_addPassenger_37 : decode cX3_addPassenger 37 = .ok (.getfield 113, 3) := by decide +kernel
theorem dX3_addPassenger_40 : decode cX3_addPassenger 40 = .ok (.ireturn, 1) := by decide +kernel
theorem dX3_addGroup_0 : decode cX3_addGroup 0 = .ok (.iload_n 1, 1) := by decide +kernel
theorem dX3_addGroup_1 : decode cX3_addGroup 1 = .ok (.invokestatic 116, 3) := by decide +kernel
theorem dX3_addGroup_4 : decode cX3_addGroup 4 = .ok (.ifCond .ne 6, 3) := by decide +kernel
theorem dX3_addGroup_7 : decode cX3_addGroup 7 = .ok (.ldc 49, 2) := by decide +kernel
theorem dX3_addGroup_9 : decode cX3_addGroup 9 = .ok (.ireturn, 1) := by decide +kernel
theorem dX3_addGroup_10 : decode cX3_addGroup 10 = .ok (.aload_n 0, 1) := by decide +kernel
theorem dX3_addGroup_11 : decode cX3_addGroup 11 = .ok (.getfield 36, 3) := by decide +kernel
theorem dX3_addGroup_14 : decode cX3_addGroup 14 = .ok (.aload_n 0, 1) := by decide +kernel
theorem dX3_addGroup_15 : decode cX3_addGroup 15 = .ok (.getfield 19, 3) := by decide +kernel
theorem dX3_addGroup_18 : decode cX3_addGroup 18 = .ok (.arraylength, 1) := by decide +kernel
theorem dX3_addGroup_19 : decode cX3_addGroup 19 = .ok (.if_icmp .lt 6, 3) := by decide +kernel
theorem dX3_addGroup_22 : decode cX3_addGroup 22 = .ok (.ldc 50, 2) := by decide +kernel
theorem dX3_addGroup_24 : decode cX3_addGroup 24 = .ok (.ireturn, 1) := by decide +kernel
theorem dX3_addGroup_25 : decode cX3_addGroup 25 = .ok (.aload_n 0, 1) := by decide +kernel
theorem dX3_addGroup_26 : decode cX3_addGroup 26 = .ok (.getfield 19, 3) := by decide +kernel
theorem dX3_addGroup_29 : decode cX3_addGroup 29 = .ok (.aload_n 0, 1) := by decide +kernel
theorem dX3_addGroup_30 : decode cX3_addGroup 30 = .ok (.getfield 36, 3) := by decide +kernel
theorem dX3_addGroup_33 : decode cX3_addGroup 33 = .ok (.aaload, 1) := by decide +kernel
theorem dX3_addGroup_34 : decode cX3_addGroup 34 = .ok (.iload_n 1, 1) := by decide +kernel
theorem dX3_addGroup_35 : decode cX3_addGroup 35 = .ok (.invokevirtual 120, 3) := by decide +kernel
theorem dX3_addGroup_38 : decode cX3_addGroup 38 = .ok (.aload_n 0, 1) := by decide +kernel
theorem dX3_addGroup_39 : decode cX3_addGroup 39 = .ok (.dup, 1) := by decide +kernel
theorem dX3_addGroup_40 : decode cX3_addGroup 40 = .ok (.getfield 36, 3) := by decide +kernel
theorem dX3_addGroup_43 : decode cX3_addGroup 43 = .ok (.iconst 1, 1) := by decide +kernel
theorem dX3_addGroup_44 : decode cX3_addGroup 44 = .ok (.iadd, 1) := by decide +kernel
theorem dX3_addGroup_45 : decode cX3_addGroup 45 = .ok (.putfield 36, 3) := by decide +kernel
theorem dX3_addGroup_48 : decode cX3_addGroup 48 = .ok (.aload_n 0, 1) := by decide +kernel
theorem dX3_addGroup_49 : decode cX3_addGroup 49 = .ok (.getfield 36, 3) := by decide +kernel
theorem dX3_addGroup_52 : decode cX3_addGroup 52 = .ok (.iconst 1, 1) := by decide +kernel
theorem dX3_addGroup_53 : decode cX3_addGroup 53 = .ok (.isub, 1) := by decide +kernel
theorem dX3_addGroup_54 : decode cX3_addGroup 54 = .ok (.ireturn, 1) := by decide +kernel
theorem dX3_joinGroup_0 : decode cX3_joinGroup 0 = .ok (.aload_n 0, 1) := by decide +kernel
theorem dX3_joinGroup_1 : decode cX3_joinGroup 1 = .ok (.iload_n 1, 1) := by decide +kernel
theorem dX3_joinGroup_2 : decode cX3_joinGroup 2 = .ok (.invokevirtual 122, 3) := by decide +kernel
theorem dX3_joinGroup_5 : decode cX3_joinGroup 5 = .ok (.astore_n 3, 1) := by decide +kernel
theorem dX3_joinGroup_6 : decode cX3_joinGroup 6 = .ok (.aload_n 0, 1) := by decide +kernel
theorem dX3_joinGroup_7 : decode cX3_joinGroup 7 = .ok (.iload_n 2, 1) := by decide +kernel
theorem dX3_joinGroup_8 : decode cX3_joinGroup 8 = .ok (.invokevirtual 58, 3) := by decide +kernel
theorem dX3_joinGroup_11 : decode cX3_joinGroup 11 = .ok (.astore 4, 2) := by decide +kernel
theorem dX3_joinGroup_13 : decode cX3_joinGroup 13 = .ok (.aload_n 3, 1) := by decide +kernel
theorem dX3_joinGroup_14 : decode cX3_joinGroup 14 = .ok (.ifnull 8, 3) := by decide +kernel
theorem dX3_joinGroup_17 : decode cX3_joinGroup 17 = .ok (.aload 4, 2) := by decide +kernel
theorem dX3_joinGroup_19 : decode cX3_joinGroup 19 = .ok (.ifnonnull 6, 3) := by decide +kernel
theorem dX3_joinGroup_22 : decode cX3_joinGroup 22 = .ok (.ldc 49, 2) := by decide +kernel
theorem dX3_joinGroup_24 : decode cX3_joinGroup 24 = .ok (.ireturn, 1) := by decide +kernel
theorem dX3_joinGroup_25 : decode cX3_joinGroup 25 = .ok (.aload 4, 2) := by decide +kernel
theorem dX3_joinGroup_27 : decode cX3_joinGroup 27 = .ok (.getfield 68, 3) := by decide +kernel
theorem dX3_joinGroup_30 : decode cX3_joinGroup 30 = .ok (.aload_n 3, 1) := by decide +kernel
theorem dX3_joinGroup_31 : decode cX3_joinGroup 31 = .ok (.getfield 126, 3) := by decide +kernel
theorem dX3_joinGroup_34 : decode cX3_joinGroup 34 = .ok (.if_icmp .ne 11, 3) := by decide +kernel
theorem dX3_joinGroup_37 : decode cX3_joinGroup 37 = .ok (.aload_n 3, 1) := by decide +kernel
theorem dX3_joinGroup_38 : decode cX3_joinGroup 38 = .ok (.iload_n 2, 1) := by decide +kernel
theorem dX3_joinGroup_39 : decode cX3_joinGroup 39 = .ok (.invokevirtual 127, 3) := by decide +kernel
theorem dX3_joinGroup_42 : decode cX3_joinGroup 42 = .ok (.ifCond .eq 6, 3) := by decide +kernel
theorem dX3_joinGroup_45 : decode cX3_joinGroup 45 = .ok (.ldc 130, 2) := by decide +kernel
theorem dX3_joinGroup_47 : decode cX3_joinGroup 47 = .ok (.ireturn, 1) := by decide +kernel
theorem dX3_joinGroup_48 : decode cX3_joinGroup 48 = .ok (.aload_n 3, 1) := by decide +kernel
theorem dX3_joinGroup_49 : decode cX3_joinGroup 49 = .ok (.invokevirtual 131, 3) := by decide +kernel
theorem dX3_joinGroup_52 : decode cX3_joinGroup 52 = .ok (.iconst 4, 1) := by decide +kernel
theorem dX3_joinGroup_53 : decode cX3_joinGroup 53 = .ok (.if_icmp .lt 6, 3) := by decide +kernel
theorem dX3_joinGroup_56 : decode cX3_joinGroup 56 = .ok (.ldc 50, 2) := by decide +kernel
theorem dX3_joinGroup_58 : decode cX3_joinGroup 58 = .ok (.ireturn, 1) := by decide +kernel
theorem dX3_joinGroup_59 : decode cX3_joinGroup 59 = .ok (.aload_n 3, 1) := by decide +kernel
theorem dX3_joinGroup_60 : decode cX3_joinGroup 60 = .ok (.dup, 1) := by decide +kernel
theorem dX3_joinGroup_61 : decode cX3_joinGroup 61 = .ok (.getfield 134, 3) := by decide +kernel
theorem dX3_joinGroup_64 : decode cX3_joinGroup 64 = .ok (.iconst 1, 1) := by decide +kernel
theorem dX3_joinGroup_65 : decode cX3_joinGroup 65 = .ok (.iload_n 2, 1) := by decide +kernel
theorem dX3_joinGroup_66 : decode cX3_joinGroup 66 = .ok (.ishl, 1) := by decide +kernel
theorem dX3_joinGroup_67 : decode cX3_joinGroup 67 = .ok (.ior, 1) := by decide +kernel
theorem dX3_joinGroup_68 : decode cX3_joinGroup 68 = .ok (.putfield 134, 3) := by decide +kernel
theorem dX3_joinGroup_71 : decode cX3_joinGroup 71 = .ok (.aload_n 3, 1) := by decide +kernel
theorem dX3_joinGroup_72 : decode cX3_joinGroup 72 = .ok (.invokevirtual 131, 3) := by decide +kernel
theorem dX3_joinGroup_75 : decode cX3_joinGroup 75 = .ok (.ireturn, 1) := by decide +kernel
theorem dX3_leaveGroup_0 : decode cX3_leaveGroup 0 = .ok (.aload_n 0, 1) := by decide +kernel
theorem dX3_leaveGroup_1 : decode cX3_leaveGroup 1 = .ok (.iload_n 1, 1) := by decide +kernel
theorem dX3_leaveGroup_2 : decode cX3_leaveGroup 2 = .ok (.invokevirtual 122, 3) := by decide +kernel
theorem dX3_leaveGroup_5 : decode cX3_leaveGroup 5 = .ok (.astore_n 3, 1) := by decide +kernel
theorem dX3_leaveGroup_6 : decode cX3_leaveGroup 6 = .ok (.aload_n 3, 1) := by decide +kernel
theorem dX3_leaveGroup_7 : decode cX3_leaveGroup 7 = .ok (.ifnull 11, 3) := by decide +kernel
theorem dX3_leaveGroup_10 : decode cX3_leaveGroup 10 = .ok (.aload_n 0, 1) := by decide +kernel
theorem dX3_leaveGroup_11 : decode cX3_leaveGroup 11 = .ok (.iload_n 2, 1) := by decide +kernel
theorem dX3_leaveGroup_12 : decode cX3_leaveGroup 12 = .ok (.invokevirtual 58, 3) := by decide +kernel
theorem dX3_leaveGroup_15 : decode cX3_leaveGroup 15 = .ok (.ifnonnull 6, 3) := by decide +kernel
theorem dX3_leaveGroup_18 : decode cX3_leaveGroup 18 = .ok (.ldc 49, 2) := by decide +kernel
theorem dX3_leaveGroup_20 : decode cX3_leaveGroup 20 = .ok (.ireturn, 1) := by decide +kernel
theorem dX3_leaveGroup_21 : decode cX3_leaveGroup 21 = .ok (.aload_n 3, 1) := by decide +kernel
theorem dX3_leaveGroup_22 : decode cX3_leaveGroup 22 = .ok (.iload_n 2, 1) := by decide +kernel
theorem dX3_leaveGroup_23 : decode cX3_leaveGroup 23 = .ok (.invokevirtual 127, 3) := by decide +kernel
theorem dX3_leaveGroup_26 : decode cX3_leaveGroup 26 = .ok (.ifCond .ne 6, 3) := by decide +kernel
theorem dX3_leaveGroup_29 : decode cX3_leaveGroup 29 = .ok (.ldc 130, 2) := by decide +kernel
theorem dX3_leaveGroup_31 : decode cX3_leaveGroup 31 = .ok (.ireturn, 1) := by decide +kernel
theorem dX3_leaveGroup_32 : decode cX3_leaveGroup 32 = .ok (.aload_n 3, 1) := by decide +kernel
theorem dX3_leaveGroup_33 : decode cX3_leaveGroup 33 = .ok (.dup, 1) := by decide +kernel
theorem dX3_leaveGroup_34 : decode cX3_leaveGroup 34 = .ok (.getfield 134, 3) := by decide +kernel
theorem dX3_leaveGroup_37 : decode cX3_leaveGroup 37 = .ok (.iconst 1, 1) := by decide +kernel
theorem dX3_leaveGroup_38 : decode cX3_leaveGroup 38 = .ok (.iload_n 2, 1) := by decide +kernel
theorem dX3_leaveGroup_39 : decode cX3_leaveGroup 39 = .ok (.ishl, 1) := by decide +kernel
theorem dX3_leaveGroup_40 : decode cX3_leaveGroup 40 = .ok (.iconst (-1), 1) := by decide +kernel
theorem dX3_leaveGroup_41 : decode cX3_leaveGroup 41 = .ok (.ixor, 1) := by decide +kernel
theorem dX3_leaveGroup_42 : decode cX3_leaveGroup 42 = .ok (.iand, 1) := by decide +kernel
theorem dX3_leaveGroup_43 : decode cX3_leaveGroup 43 = .ok (.putfield 134, 3) := by decide +kernel
theorem dX3_leaveGroup_46 : decode cX3_leaveGroup 46 = .ok (.aload_n 3, 1) := by decide +kernel
theorem dX3_leaveGroup_47 : decode cX3_leaveGroup 47 = .ok (.invokevirtual 131, 3) := by decide +kernel
theorem dX3_leaveGroup_50 : decode cX3_leaveGroup 50 = .ok (.ireturn, 1) := by decide +kernel
theorem dX3_leastRest_0 : decode cX3_leastRest 0 = .ok (.ldc 137, 2) := by decide +kernel
theorem dX3_leastRest_2 : decode cX3_leastRest 2 = .ok (.istore_n 2, 1) := by decide +kernel
theorem dX3_leastRest_3 : decode cX3_leastRest 3 = .ok (.iconst 0, 1) := by decide +kernel
theorem dX3_leastRest_4 : decode cX3_leastRest 4 = .ok (.istore_n 3, 1) := by decide +kernel
theorem dX3_leastRest_5 : decode cX3_leastRest 5 = .ok (.iload_n 3, 1) := by decide +kernel
theorem dX3_leastRest_6 : decode cX3_leastRest 6 = .ok (.aload_n 0, 1) := by decide +kernel
theorem dX3_leastRest_7 : decode cX3_leastRest 7 = .ok (.getfield 29, 3) := by decide +kernel
theorem dX3_leastRest_10 : decode cX3_leastRest 10 = .ok (.if_icmp .ge 67, 3) := by decide +kernel
theorem dX3_leastRest_13 : decode cX3_leastRest 13 = .ok (.iload_n 3, 1) := by decide +kernel
theorem dX3_leastRest_14 : decode cX3_leastRest 14 = .ok (.aload_n 0, 1) := by decide +kernel
theorem dX3_leastRest_15 : decode cX3_leastRest 15 = .ok (.getfield 11, 3) := by decide +kernel
theorem dX3_leastRest_18 : decode cX3_leastRest 18 = .ok (.arraylength, 1) := by decide +kernel
theorem dX3_leastRest_19 : decode cX3_leastRest 19 = .ok (.if_icmp .ge 58, 3) := by decide +kernel
theorem dX3_leastRest_22 : decode cX3_leastRest 22 = .ok (.iload_n 1, 1) := by decide +kernel
theorem dX3_leastRest_23 : decode cX3_leastRest 23 = .ok (.iconst 1, 1) := by decide +kernel
theorem dX3_leastRest_24 : decode cX3_leastRest 24 = .ok (.iload_n 3, 1) := by decide +kernel
theorem dX3_leastRest_25 : decode cX3_leastRest 25 = .ok (.ishl, 1) := by decide +kernel
theorem dX3_leastRest_26 : decode cX3_leastRest 26 = .ok (.iand, 1) := by decide +kernel
theorem dX3_leastRest_27 : decode cX3_leastRest 27 = .ok (.ifCond .eq 7, 3) := by decide +kernel
theorem dX3_leastRest_30 : decode cX3_leastRest 30 = .ok (.iconst 1, 1) := by decide +kernel
theorem dX3_leastRest_31 : decode cX3_leastRest 31 = .ok (.goto 4, 3) := by decide +kernel
theorem dX3_leastRest_34 : decode cX3_leastRest 34 = .ok (.iconst 0, 1) := by decide +kernel
theorem dX3_leastRest_35 : decode cX3_leastRest 35 = .ok (.istore 4, 2) := by decide +kernel
theorem dX3_leastRest_37 : decode cX3_leastRest 37 = .ok (.iload 4, 2) := by decide +kernel
theorem dX3_leastRest_39 : decode cX3_leastRest 39 = .ok (.ifCond .eq 32, 3) := by decide +kernel
theorem dX3_leastRest_42 : decode cX3_leastRest 42 = .ok (.iload_n 2, 1) := by decide +kernel
theorem dX3_leastRest_43 : decode cX3_leastRest 43 = .ok (.ldc 137, 2) := by decide +kernel
theorem dX3_leastRest_45 : decode cX3_leastRest 45 = .ok (.if_icmp .eq 16, 3) := by decide +kernel
theorem dX3_leastRest_48 : decode cX3_leastRest 48 = .ok (.aload_n 0, 1) := by decide +kernel
theorem dX3_leastRest_49 : decode cX3_leastRest 49 = .ok (.getfield 11, 3) := by decide +kernel
theorem dX3_leastRest_52 : decode cX3_leastRest 52 = .ok (.iload_n 3, 1) := by decide +kernel
theorem dX3_leastRest_53 : decode cX3_leastRest 53 = .ok (.aaload, 1) := by decide +kernel
theorem dX3_leastRest_54 : decode cX3_leastRest 54 = .ok (.getfield 113, 3) := by decide +kernel
theorem dX3_leastRest_57 : decode cX3_leastRest 57 = .ok (.iload_n 2, 1) := by decide +kernel
theorem dX3_leastRest_58 : decode cX3_leastRest 58 = .ok (.if_icmp .ge 13, 3) := by decide +kernel
theorem dX3_leastRest_61 : decode cX3_leastRest 61 = .ok (.aload_n 0, 1) := by decide +kernel
theorem dX3_leastRest_62 : decode cX3_leastRest 62 = .ok (.getfield 11, 3) := by decide +kernel
theorem dX3_leastRest_65 : decode cX3_leastRest 65 = .ok (.iload_n 3, 1) := by decide +kernel
theorem dX3_leastRest_66 : decode cX3_leastRest 66 = .ok (.aaload, 1) := by decide +kernel
theorem dX3_leastRest_67 : decode cX3_leastRest 67 = .ok (.getfield 113, 3) := by decide +kernel
theorem dX3_leastRest_70 : decode cX3_leastRest 70 = .ok (.istore_n 2, 1) := by decide +kernel
theorem dX3_leastRest_71 : decode cX3_leastRest 71 = .ok (.iinc 3 1, 3) := by decide +kernel
theorem dX3_leastRest_74 : decode cX3_leastRest 74 = .ok (.goto (-69), 3) := by decide +kernel
theorem dX3_leastRest_77 : decode cX3_leastRest 77 = .ok (.iload_n 2, 1) := by decide +kernel
theorem dX3_leastRest_78 : decode cX3_leastRest 78 = .ok (.ireturn, 1) := by decide +kernel
theorem dX3_sumOver_0 : decode cX3_sumOver 0 = .ok (.iconst 0, 1) := by decide +kernel
theorem dX3_sumOver_1 : decode cX3_sumOver 1 = .ok (.istore_n 3, 1) := by decide +kernel
theorem dX3_sumOver_2 : decode cX3_sumOver 2 = .ok (.iconst 0, 1) := by decide +kernel
theorem dX3_sumOver_3 : decode cX3_sumOver 3 = .ok (.istore 4, 2) := by decide +kernel
theorem dX3_sumOver_5 : decode cX3_sumOver 5 = .ok (.iload 4, 2) := by decide +kernel
theorem dX3_sumOver_7 : decode cX3_sumOver 7 = .ok (.aload_n 0, 1) := by decide +kernel
theorem dX3_sumOver_8 : decode cX3_sumOver 8 = .ok (.getfield 29, 3) := by decide +kernel
theorem dX3_sumOver_11 : decode cX3_sumOver 11 = .ok (.if_icmp .ge 42, 3) := by decide +kernel
theorem dX3_sumOver_14 : decode cX3_sumOver 14 = .ok (.iload 4, 2) := by decide +kernel
theorem dX3_sumOver_16 : decode cX3_sumOver 16 = .ok (.aload_n 0, 1) := by decide +kernel
theorem dX3_sumOver_17 : decode cX3_sumOver 17 = .ok (.getfield 11, 3) := by decide +kernel
theorem dX3_sumOver_20 : decode cX3_sumOver 20 = .ok (.arraylength, 1) := by decide +kernel
theorem dX3_sumOver_21 : decode cX3_sumOver 21 = .ok (.if_icmp .ge 32, 3) := by decide +kernel
theorem dX3_sumOver_24 : decode cX3_sumOver 24 = .ok (.iload_n 1, 1) := by decide +kernel
theorem dX3_sumOver_25 : decode cX3_sumOver 25 = .ok (.iconst 1, 1) := by decide +kernel
theorem dX3_sumOver_26 : decode cX3_sumOver 26 = .ok (.iload 4, 2) := by decide +kernel
theorem dX3_sumOver_28 : decode cX3_sumOver 28 = .ok (.ishl, 1) := by decide +kernel
theorem dX3_sumOver_29 : decode cX3_sumOver 29 = .ok (.iand, 1) := by decide +kernel
theorem dX3_sumOver_30 : decode cX3_sumOver 30 = .ok (.ifCond .eq 17, 3) := by decide +kernel
theorem dX3_sumOver_33 : decode cX3_sumOver 33 = .ok (.iload_n 3, 1) := by decide +kernel
theorem dX3_sumOver_34 : decode cX3_sumOver 34 = .ok (.aload_n 0, 1) := by decide +kernel
theorem dX3_sumOver_35 : decode cX3_sumOver 35 = .ok (.getfield 11, 3) := by decide +kernel
theorem dX3_sumOver_38 : decode cX3_sumOver 38 = .ok (.iload 4, 2) := by decide +kernel
theorem dX3_sumOver_40 : decode cX3_sumOver 40 = .ok (.aaload, 1) := by decide +kernel
theorem dX3_sumOver_41 : decode cX3_sumOver 41 = .ok (.iload_n 2, 1) := by decide +kernel
theorem dX3_sumOver_42 : decode cX3_sumOver 42 = .ok (.invokevirtual 138, 3) := by decide +kernel
theorem dX3_sumOver_45 : decode cX3_sumOver 45 = .ok (.iadd, 1) := by decide +kernel
theorem dX3_sumOver_46 : decode cX3_sumOver 46 = .ok (.istore_n 3, 1) := by decide +kernel
theorem dX3_sumOver_47 : decode cX3_sumOver 47 = .ok (.iinc 4 1, 3) := by decide +kernel
theorem dX3_sumOver_50 : decode cX3_sumOver 50 = .ok (.goto (-45), 3) := by decide +kernel
theorem dX3_sumOver_53 : decode cX3_sumOver 53 = .ok (.iload_n 3, 1) := by decide +kernel
theorem dX3_sumOver_54 : decode cX3_sumOver 54 = .ok (.ireturn, 1) := by decide +kernel
theorem dX3_clockInPlace_0 : decode cX3_clockInPlace 0 = .ok (.iconst 0, 1) := by decide +kernel
theorem dX3_clockInPlace_1 : decode cX3_clockInPlace 1 = .ok (.istore_n 2, 1) := by decide +kernel
theorem dX3_clockInPlace_2 : decode cX3_clockInPlace 2 = .ok (.iload_n 2, 1) := by decide +kernel
theorem dX3_clockInPlace_3 : decode cX3_clockInPlace 3 = .ok (.aload_n 0, 1) := by decide +kernel
theorem dX3_clockInPlace_4 : decode cX3_clockInPlace 4 = .ok (.getfield 29, 3) := by decide +kernel
theorem dX3_clockInPlace_7 : decode cX3_clockInPlace 7 = .ok (.if_icmp .ge 38, 3) := by decide +kernel
theorem dX3_clockInPlace_10 : decode cX3_clockInPlace 10 = .ok (.iload_n 2, 1) := by decide +kernel
theorem dX3_clockInPlace_11 : decode cX3_clockInPlace 11 = .ok (.aload_n 0, 1) := by decide +kernel
theorem dX3_clockInPlace_12 : decode cX3_clockInPlace 12 = .ok (.getfield 11, 3) := by decide +kernel
theorem dX3_clockInPlace_15 : decode cX3_clockInPlace 15 = .ok (.arraylength, 1) := by decide +kernel
theorem dX3_clockInPlace_16 : decode cX3_clockInPlace 16 = .ok (.if_icmp .ge 29, 3) := by decide +kernel
theorem dX3_clockInPlace_19 : decode cX3_clockInPlace 19 = .ok (.aload_n 0, 1) := by decide +kernel
theorem dX3_clockInPlace_20 : decode cX3_clockInPlace 20 = .ok (.iload_n 2, 1) := by decide +kernel
theorem dX3_clockInPlace_21 : decode cX3_clockInPlace 21 = .ok (.aload_n 0, 1) := by decide +kernel
theorem dX3_clockInPlace_22 : decode cX3_clockInPlace 22 = .ok (.getfield 11, 3) := by decide +kernel
theorem dX3_clockInPlace_25 : decode cX3_clockInPlace 25 = .ok (.iload_n 2, 1) := by decide +kernel
theorem dX3_clockInPlace_26 : decode cX3_clockInPlace 26 = .ok (.aaload, 1) := by decide +kernel
theorem dX3_clockInPlace_27 : decode cX3_clockInPlace 27 = .ok (.getfield 113, 3) := by decide +kernel
theorem dX3_clockInPlace_30 : decode cX3_clockInPlace 30 = .ok (.invokevirtual 141, 3) := by decide +kernel
theorem dX3_clockInPlace_33 : decode cX3_clockInPlace 33 = .ok (.iload_n 1, 1) := by decide +kernel
theorem dX3_clockInPlace_34 : decode cX3_clockInPlace 34 = .ok (.if_icmp .ne 5, 3) := by decide +kernel
theorem dX3_clockInPlace_37 : decode cX3_clockInPlace 37 = .ok (.iload_n 2, 1) := by decide +kernel
theorem dX3_clockInPlace_38 : decode cX3_clockInPlace 38 = .ok (.ireturn, 1) := by decide +kernel
theorem dX3_clockInPlace_39 : decode cX3_clockInPlace 39 = .ok (.iinc 2 1, 3) := by decide +kernel
theorem dX3_clockInPlace_42 : decode cX3_clockInPlace 42 = .ok (.goto (-40), 3) := by decide +kernel
theorem dX3_clockInPlace_45 : decode cX3_clockInPlace 45 = .ok (.ldc 137, 2) := by decide +kernel
theorem dX3_clockInPlace_47 : decode cX3_clockInPlace 47 = .ok (.ireturn, 1) := by decide +kernel
theorem dX3_clocksAhead_0 : decode cX3_clocksAhead 0 = .ok (.iconst 0, 1) := by decide +kernel
theorem dX3_clocksAhead_1 : decode cX3_clocksAhead 1 = .ok (.istore_n 3, 1) := by decide +kernel
theorem dX3_clocksAhead_2 : decode cX3_clocksAhead 2 = .ok (.iconst 0, 1) := by decide +kernel
theorem dX3_clocksAhead_3 : decode cX3_clocksAhead 3 = .ok (.istore 4, 2) := by decide +kernel
theorem dX3_clocksAhead_5 : decode cX3_clocksAhead 5 = .ok (.iload 4, 2) := by decide +kernel
theorem dX3_clocksAhead_7 : decode cX3_clocksAhead 7 = .ok (.aload_n 0, 1) := by decide +kernel
theorem dX3_clocksAhead_8 : decode cX3_clocksAhead 8 = .ok (.getfield 29, 3) := by decide +kernel
theorem dX3_clocksAhead_11 : decode cX3_clocksAhead 11 = .ok (.if_icmp .ge 52, 3) := by decide +kernel
theorem dX3_clocksAhead_14 : decode cX3_clocksAhead 14 = .ok (.iload 4, 2) := by decide +kernel
theorem dX3_clocksAhead_16 : decode cX3_clocksAhead 16 = .ok (.aload_n 0, 1) := by decide +kernel
theorem dX3_clocksAhead_17 : decode cX3_clocksAhead 17 = .ok (.getfield 11, 3) := by decide +kernel
theorem dX3_clocksAhead_20 : decode cX3_clocksAhead 20 = .ok (.arraylength, 1) := by decide +kernel
theorem dX3_clocksAhead_21 : decode cX3_clocksAhead 21 = .ok (.if_icmp .ge 42, 3) := by decide +kernel
theorem dX3_clocksAhead_24 : decode cX3_clocksAhead 24 = .ok (.aload_n 0, 1) := by decide +kernel
theorem dX3_clocksAhead_25 : decode cX3_clocksAhead 25 = .ok (.getfield 11, 3) := by decide +kernel
theorem dX3_clocksAhead_28 : decode cX3_clocksAhead 28 = .ok (.iload 4, 2) := by decide +kernel
theorem dX3_clocksAhead_30 : decode cX3_clocksAhead 30 = .ok (.aaload, 1) := by decide +kernel
theorem dX3_clocksAhead_31 : decode cX3_clocksAhead 31 = .ok (.getfield 113, 3) := by decide +kernel
theorem dX3_clocksAhead_34 : decode cX3_clocksAhead 34 = .ok (.istore 5, 2) := by decide +kernel
theorem dX3_clocksAhead_36 : decode cX3_clocksAhead 36 = .ok (.iload 5, 2) := by decide +kernel
theorem dX3_clocksAhead_38 : decode cX3_clocksAhead 38 = .ok (.iload_n 2, 1) := by decide +kernel
theorem dX3_clocksAhead_39 : decode cX3_clocksAhead 39 = .ok (.if_icmp .lt 15, 3) := by decide +kernel
theorem dX3_clocksAhead_42 : decode cX3_clocksAhead 42 = .ok (.iload 5, 2) := by decide +kernel
theorem dX3_clocksAhead_44 : decode cX3_clocksAhead 44 = .ok (.iload_n 2, 1) := by decide +kernel
theorem dX3_clocksAhead_45 : decode cX3_clocksAhead 45 = .ok (.if_icmp .ne 12, 3) := by decide +kernel
theorem dX3_clocksAhead_48 : decode cX3_clocksAhead 48 = .ok (.iload 4, 2) := by decide +kernel
theorem dX3_clocksAhead_50 : decode cX3_clocksAhead 50 = .ok (.iload_n 1, 1) := by decide +kernel
theorem dX3_clocksAhead_51 : decode cX3_clocksAhead 51 = .ok (.if_icmp .ge 6, 3) := by decide +kernel
theorem dX3_clocksAhead_54 : decode cX3_clocksAhead 54 = .ok (.iinc 3 1, 3) := by decide +kernel
theorem dX3_clocksAhead_57 : decode cX3_clocksAhead 57 = .ok (.iinc 4 1, 3) := by decide +kernel
theorem dX3_clocksAhead_60 : decode cX3_clocksAhead 60 = .ok (.goto (-55), 3) := by decide +kernel
theorem dX3_clocksAhead_63 : decode cX3_clocksAhead 63 = .ok (.iload_n 3, 1) := by decide +kernel
theorem dX3_clocksAhead_64 : decode cX3_clocksAhead 64 = .ok (.ireturn, 1) := by decide +kernel
theorem dX3_waitDueToAll_0 : decode cX3_waitDueToAll 0 = .ok (.dconst 0, 1) := by decide +kernel
theorem dX3_waitDueToAll_1 : decode cX3_waitDueToAll 1 = .ok (.dstore_n 1, 1) := by decide +kernel
theorem dX3_waitDueToAll_2 : decode cX3_waitDueToAll 2 = .ok (.iconst 0, 1) := by decide +kernel
theorem dX3_waitDueToAll_3 : decode cX3_waitDueToAll 3 = .ok (.istore_n 3, 1) := by decide +kernel
theorem dX3_waitDueToAll_4 : decode cX3_waitDueToAll 4 = .ok (.iload_n 3, 1) := by decide +kernel
theorem dX3_waitDueToAll_5 : decode cX3_waitDueToAll 5 = .ok (.aload_n 0, 1) := by decide +kernel
theorem dX3_waitDueToAll_6 : decode cX3_waitDueToAll 6 = .ok (.getfield 29, 3) := by decide +kernel
theorem dX3_waitDueToAll_9 : decode cX3_waitDueToAll 9 = .ok (.if_icmp .ge 45, 3) := by decide +kernel
theorem dX3_waitDueToAll_12 : decode cX3_waitDueToAll 12 = .ok (.iload_n 3, 1) := by decide +kernel
theorem dX3_waitDueToAll_13 : decode cX3_waitDueToAll 13 = .ok (.aload_n 0, 1) := by decide +kernel
theorem dX3_waitDueToAll_14 : decode cX3_waitDueToAll 14 = .ok (.getfield 11, 3) := by decide +kernel
theorem dX3_waitDueToAll_17 : decode cX3_waitDueToAll 17 = .ok (.arraylength, 1) := by decide +kernel
theorem dX3_waitDueToAll_18 : decode cX3_waitDueToAll 18 = .ok (.if_icmp .ge 36, 3) := by decide +kernel
theorem dX3_waitDueToAll_21 : decode cX3_waitDueToAll 21 = .ok (.dload_n 1, 1) := by decide +kernel
theorem dX3_waitDueToAll_22 : decode cX3_waitDueToAll 22 = .ok (.aload_n 0, 1) := by decide +kernel
theorem dX3_waitDueToAll_23 : decode cX3_waitDueToAll 23 = .ok (.getfield 11, 3) := by decide +kernel
theorem dX3_waitDueToAll_26 : decode cX3_waitDueToAll 26 = .ok (.iload_n 3, 1) := by decide +kernel
theorem dX3_waitDueToAll_27 : decode cX3_waitDueToAll 27 = .ok (.aaload, 1) := by decide +kernel
theorem dX3_waitDueToAll_28 : decode cX3_waitDueToAll 28 = .ok (.getfield 107, 3) := by decide +kernel
theorem dX3_waitDueToAll_31 : decode cX3_waitDueToAll 31 = .ok (.i2d, 1) := by decide +kernel
theorem dX3_waitDueToAll_32 : decode cX3_waitDueToAll 32 = .ok (.aload_n 0, 1) := by decide +kernel
theorem dX3_waitDueToAll_33 : decode cX3_waitDueToAll 33 = .ok (.getfield 11, 3) := by decide +kernel
theorem dX3_waitDueToAll_36 : decode cX3_waitDueToAll 36 = .ok (.iload_n 3, 1) := by decide +kernel
theorem dX3_waitDueToAll_37 : decode cX3_waitDueToAll 37 = .ok (.aaload, 1) := by decide +kernel
theorem dX3_waitDueToAll_38 : decode cX3_waitDueToAll 38 = .ok (.getfield 71, 3) := by decide +kernel
theorem dX3_waitDueToAll_41 : decode cX3_waitDueToAll 41 = .ok (.iconst 2, 1) := by decide +kernel
theorem dX3_waitDueToAll_42 : decode cX3_waitDueToAll 42 = .ok (.invokevirtual 145, 3) := by decide +kernel
theorem dX3_waitDueToAll_45 : decode cX3_waitDueToAll 45 = .ok (.dmul, 1) := by decide +kernel
theorem dX3_waitDueToAll_46 : decode cX3_waitDueToAll 46 = .ok (.dadd, 1) := by decide +kernel
theorem dX3_waitDueToAll_47 : decode cX3_waitDueToAll 47 = .ok (.dstore_n 1, 1) := by decide +kernel
theorem dX3_waitDueToAll_48 : decode cX3_waitDueToAll 48 = .ok (.iinc 3 1, 3) := by decide +kernel
theorem dX3_waitDueToAll_51 : decode cX3_waitDueToAll 51 = .ok (.goto (-47), 3) := by decide +kernel
theorem dX3_waitDueToAll_54 : decode cX3_waitDueToAll 54 = .ok (.dload_n 1, 1) := by decide +kernel
theorem dX3_waitDueToAll_55 : decode cX3_waitDueToAll 55 = .ok (.dreturn, 1) := by decide +kernel
theorem dX3_aboutToTell_0 : decode cX3_aboutToTell 0 = .ok (.iconst 0, 1) := by decide +kernel
theorem dX3_aboutToTell_1 : decode cX3_aboutToTell 1 = .ok (.istore_n 1, 1) := by decide +kernel
theorem dX3_aboutToTell_2 : decode cX3_aboutToTell 2 = .ok (.iconst 0, 1) := by decide +kernel
theorem dX3_aboutToTell_3 : decode cX3_aboutToTell 3 = .ok (.istore_n 2, 1) := by decide +kernel
theorem dX3_aboutToTell_4 : decode cX3_aboutToTell 4 = .ok (.iload_n 2, 1) := by decide +kernel
theorem dX3_aboutToTell_5 : decode cX3_aboutToTell 5 = .ok (.aload_n 0, 1) := by decide +kernel
theorem dX3_aboutToTell_6 : decode cX3_aboutToTell 6 = .ok (.getfield 29, 3) := by decide +kernel
theorem dX3_aboutToTell_9 : decode cX3_aboutToTell 9 = .ok (.if_icmp .ge 37, 3) := by decide +kernel
theorem dX3_aboutToTell_12 : decode cX3_aboutToTell 12 = .ok (.iload_n 2, 1) := by decide +kernel
theorem dX3_aboutToTell_13 : decode cX3_aboutToTell 13 = .ok (.aload_n 0, 1) := by decide +kernel
theorem dX3_aboutToTell_14 : decode cX3_aboutToTell 14 = .ok (.getfield 11, 3) := by decide +kernel
theorem dX3_aboutToTell_17 : decode cX3_aboutToTell 17 = .ok (.arraylength, 1) := by decide +kernel
theorem dX3_aboutToTell_18 : decode cX3_aboutToTell 18 = .ok (.if_icmp .ge 28, 3) := by decide +kernel
theorem dX3_aboutToTell_21 : decode cX3_aboutToTell 21 = .ok (.aload_n 0, 1) := by decide +kernel
theorem dX3_aboutToTell_22 : decode cX3_aboutToTell 22 = .ok (.getfield 11, 3) := by decide +kernel
theorem dX3_aboutToTell_25 : decode cX3_aboutToTell 25 = .ok (.iload_n 2, 1) := by decide +kernel
theorem dX3_aboutToTell_26 : decode cX3_aboutToTell 26 = .ok (.aaload, 1) := by decide +kernel
theorem dX3_aboutToTell_27 : decode cX3_aboutToTell 27 = .ok (.getfield 113, 3) := by decide +kernel
theorem dX3_aboutToTell_30 : decode cX3_aboutToTell 30 = .ok (.iconst 1, 1) := by decide +kernel
theorem dX3_aboutToTell_31 : decode cX3_aboutToTell 31 = .ok (.if_icmp .ne 9, 3) := by decide +kernel
theorem dX3_aboutToTell_34 : decode cX3_aboutToTell 34 = .ok (.iload_n 1, 1) := by decide +kernel
theorem dX3_aboutToTell_35 : decode cX3_aboutToTell 35 = .ok (.iconst 1, 1) := by decide +kernel
theorem dX3_aboutToTell_36 : decode cX3_aboutToTell 36 = .ok (.iload_n 2, 1) := by decide +kernel
theorem dX3_aboutToTell_37 : decode cX3_aboutToTell 37 = .ok (.ishl, 1) := by decide +kernel
theorem dX3_aboutToTell_38 : decode cX3_aboutToTell 38 = .ok (.ior, 1) := by decide +kernel
theorem dX3_aboutToTell_39 : decode cX3_aboutToTell 39 = .ok (.istore_n 1, 1) := by decide +kernel
theorem dX3_aboutToTell_40 : decode cX3_aboutToTell 40 = .ok (.iinc 2 1, 3) := by decide +kernel
theorem dX3_aboutToTell_43 : decode cX3_aboutToTell 43 = .ok (.goto (-39), 3) := by decide +kernel
theorem dX3_aboutToTell_46 : decode cX3_aboutToTell 46 = .ok (.iload_n 1, 1) := by decide +kernel
theorem dX3_aboutToTell_47 : decode cX3_aboutToTell 47 = .ok (.ireturn, 1) := by decide +kernel
theorem dX3_greatestAge_0 : decode cX3_greatestAge 0 = .ok (.ldc 137, 2) := by decide +kernel
theorem dX3_greatestAge_2 : decode cX3_greatestAge 2 = .ok (.istore_n 1, 1) := by decide +kernel
theorem dX3_greatestAge_3 : decode cX3_greatestAge 3 = .ok (.iconst 0, 1) := by decide +kernel
theorem dX3_greatestAge_4 : decode cX3_greatestAge 4 = .ok (.istore_n 2, 1) := by decide +kernel
theorem dX3_greatestAge_5 : decode cX3_greatestAge 5 = .ok (.iload_n 2, 1) := by decide +kernel
theorem dX3_greatestAge_6 : decode cX3_greatestAge 6 = .ok (.aload_n 0, 1) := by decide +kernel
theorem dX3_greatestAge_7 : decode cX3_greatestAge 7 = .ok (.getfield 29, 3) := by decide +kernel
theorem dX3_greatestAge_10 : decode cX3_greatestAge 10 = .ok (.if_icmp .ge 32, 3) := by decide +kernel
theorem dX3_greatestAge_13 : decode cX3_greatestAge 13 = .ok (.iload_n 2, 1) := by decide +kernel
theorem dX3_greatestAge_14 : decode cX3_greatestAge 14 = .ok (.aload_n 0, 1) := by decide +kernel
theorem dX3_greatestAge_15 : decode cX3_greatestAge 15 = .ok (.getfield 11, 3) := by decide +kernel
theorem dX3_greatestAge_18 : decode cX3_greatestAge 18 = .ok (.arraylength, 1) := by decide +kernel
theorem dX3_greatestAge_19 : decode cX3_greatestAge 19 = .ok (.if_icmp .ge 23, 3) := by decide +kernel
theorem dX3_greatestAge_22 : decode cX3_greatestAge 22 = .ok (.iload_n 1, 1) := by decide +kernel
theorem dX3_greatestAge_23 : decode cX3_greatestAge 23 = .ok (.aload_n 0, 1) := by decide +kernel
theorem dX3_greatestAge_24 : decode cX3_greatestAge 24 = .ok (.getfield 11, 3) := by decide +kernel
theorem dX3_greatestAge_27 : decode cX3_greatestAge 27 = .ok (.iload_n 2, 1) := by decide +kernel
theorem dX3_greatestAge_28 : decode cX3_greatestAge 28 = .ok (.aaload, 1) := by decide +kernel
theorem dX3_greatestAge_29 : decode cX3_greatestAge 29 = .ok (.invokevirtual 149, 3) := by decide +kernel
theorem dX3_greatestAge_32 : decode cX3_greatestAge 32 = .ok (.invokestatic 152, 3) := by decide +kernel
theorem dX3_greatestAge_35 : decode cX3_greatestAge 35 = .ok (.istore_n 1, 1) := by decide +kernel
theorem dX3_greatestAge_36 : decode cX3_greatestAge 36 = .ok (.iinc 2 1, 3) := by decide +kernel
theorem dX3_greatestAge_39 : decode cX3_greatestAge 39 = .ok (.goto (-34), 3) := by decide +kernel
theorem dX3_greatestAge_42 : decode cX3_greatestAge 42 = .ok (.iload_n 1, 1) := by decide +kernel
theorem dX3_greatestAge_43 : decode cX3_greatestAge 43 = .ok (.ireturn, 1) := by decide +kernel
theorem dX4_init_0 : decode cX4_init 0 = .ok (.aload_n 0, 1) := by decide +kernel
theorem dX4_init_1 : decode cX4_init 1 = .ok (.invokespecial 3, 3) := by decide +kernel
theorem dX4_init_4 : decode cX4_init 4 = .ok (.aload_n 0, 1) := by decide +kernel
theorem dX4_init_5 : decode cX4_init 5 = .ok (.iconst 5, 1) := by decide +kernel
theorem dX4_init_6 : decode cX4_init 6 = .ok (.anewarray 9, 3) := by decide +kernel
theorem dX4_init_9 : decode cX4_init 9 = .ok (.putfield 11, 3) := by decide +kernel
theorem dX4_init_12 : decode cX4_init 12 = .ok (.iconst 0, 1) := by decide +kernel
theorem dX4_init_13 : decode cX4_init 13 = .ok (.istore_n 1, 1) := by decide +kernel
theorem dX4_init_14 : decode cX4_init 14 = .ok (.iload_n 1, 1) := by decide +kernel
theorem dX4_init_15 : decode cX4_init 15 = .ok (.aload_n 0, 1) := by decide +kernel
theorem dX4_init_16 : decode cX4_init 16 = .ok (.getfield 11, 3) := by decide +kernel
theorem dX4_init_19 : decode cX4_init 19 = .ok (.arraylength, 1) := by decide +kernel
theorem dX4_init_20 : decode cX4_init 20 = .ok (.if_icmp .ge 22, 3) := by decide +kernel
theorem dX4_init_23 : decode cX4_init 23 = .ok (.aload_n 0, 1) := by decide +kernel
theorem dX4_init_24 : decode cX4_init 24 = .ok (.getfield 11, 3) := by decide +kernel
theorem dX4_init_27 : decode cX4_init 27 = .ok (.iload_n 1, 1) := by decide +kernel
theorem dX4_init_28 : decode cX4_init 28 = .ok (.new 9, 3) := by decide +kernel
theorem dX4_init_31 : decode cX4_init 31 = .ok (.dup, 1) := by decide +kernel
theorem dX4_init_32 : decode cX4_init 32 = .ok (.invokespecial 17, 3) := by decide +kernel
theorem dX4_init_35 : decode cX4_init 35 = .ok (.aastore, 1) := by decide +kernel
theorem dX4_init_36 : decode cX4_init 36 = .ok (.iinc 1 1, 3) := by decide +kernel
theorem dX4_init_39 : decode cX4_init 39 = .ok (.goto (-25), 3) := by decide +kernel
theorem dX4_init_42 : decode cX4_init 42 = .ok (.return_, 1) := by decide +kernel
theorem dX4_note_0 : decode cX4_note 0 = .ok (.aload_n 0, 1) := by decide +kernel
theorem dX4_note_1 : decode cX4_note 1 = .ok (.getfield 18, 3) := by decide +kernel
theorem dX4_note_4 : decode cX4_note 4 = .ok (.ifCond .lt 28, 3) := by decide +kernel
theorem dX4_note_7 : decode cX4_note 7 = .ok (.aload_n 0, 1) := by decide +kernel
theorem dX4_note_8 : decode cX4_note 8 = .ok (.getfield 18, 3) := by decide +kernel
theorem dX4_note_11 : decode cX4_note 11 = .ok (.aload_n 0, 1) := by decide +kernel
theorem dX4_note_12 : decode cX4_note 12 = .ok (.getfield 11, 3) := by decide +kernel
theorem dX4_note_15 : decode cX4_note 15 = .ok (.arraylength, 1) := by decide +kernel
theorem dX4_note_16 : decode cX4_note 16 = .ok (.if_icmp .ge 16, 3) := by decide +kernel
theorem dX4_note_19 : decode cX4_note 19 = .ok (.aload_n 0, 1) := by decide +kernel
theorem dX4_note_20 : decode cX4_note 20 = .ok (.getfield 11, 3) := by decide +kernel
theorem dX4_note_23 : decode cX4_note 23 = .ok (.aload_n 0, 1) := by decide +kernel
theorem dX4_note_24 : decode cX4_note 24 = .ok (.getfield 18, 3) := by decide +kernel
theorem dX4_note_27 : decode cX4_note 27 = .ok (.aaload, 1) := by decide +kernel
theorem dX4_note_28 : decode cX4_note 28 = .ok (.aload_n 1, 1) := by decide +kernel
theorem dX4_note_29 : decode cX4_note 29 = .ok (.invokevirtual 22, 3) := by decide +kernel
theorem dX4_note_32 : decode cX4_note 32 = .ok (.return_, 1) := by decide +kernel
theorem dX4_keep_0 : decode cX4_keep 0 = .ok (.aload_n 0, 1) := by decide +kernel
theorem dX4_keep_1 : decode cX4_keep 1 = .ok (.dup, 1) := by decide +kernel
theorem dX4_keep_2 : decode cX4_keep 2 = .ok (.getfield 18, 3) := by decide +kernel
theorem dX4_keep_5 : decode cX4_keep 5 = .ok (.iconst 1, 1) := by decide +kernel
theorem dX4_keep_6 : decode cX4_keep 6 = .ok (.iadd, 1) := by decide +kernel
theorem dX4_keep_7 : decode cX4_keep 7 = .ok (.putfield 18, 3) := by decide +kernel
theorem dX4_keep_10 : decode cX4_keep 10 = .ok (.aload_n 0, 1) := by decide +kernel
theorem dX4_keep_11 : decode cX4_keep 11 = .ok (.getfield 18, 3) := by decide +kernel
theorem dX4_keep_14 : decode cX4_keep 14 = .ok (.iconst 4, 1) := by decide +kernel
theorem dX4_keep_15 : decode cX4_keep 15 = .ok (.if_icmp .gt 4, 3) := by decide +kernel
theorem dX4_keep_18 : decode cX4_keep 18 = .ok (.return_, 1) := by decide +kernel
theorem dX4_keep_19 : decode cX4_keep 19 = .ok (.aload_n 0, 1) := by decide +kernel
theorem dX4_keep_20 : decode cX4_keep 20 = .ok (.iconst 4, 1) := by decide +kernel
theorem dX4_keep_21 : decode cX4_keep 21 = .ok (.putfield 18, 3) := by decide +kernel
theorem dX4_keep_24 : decode cX4_keep 24 = .ok (.aload_n 0, 1) := by decide +kernel
theorem dX4_keep_25 : decode cX4_keep 25 = .ok (.getfield 11, 3) := by decide +kernel
theorem dX4_keep_28 : decode cX4_keep 28 = .ok (.iconst 0, 1) := by decide +kernel
theorem dX4_keep_29 : decode cX4_keep 29 = .ok (.aaload, 1) := by decide +kernel
theorem dX4_keep_30 : decode cX4_keep 30 = .ok (.astore_n 1, 1) := by decide +kernel
theorem dX4_keep_31 : decode cX4_keep 31 = .ok (.iconst 1, 1) := by decide +kernel
theorem dX4_keep_32 : decode cX4_keep 32 = .ok (.istore_n 2, 1) := by decide +kernel
theorem dX4_keep_33 : decode cX4_keep 33 = .ok (.iload_n 2, 1) := by decide +kernel
theorem dX4_keep_34 : decode cX4_keep 34 = .ok (.aload_n 0, 1) := by decide +kernel
theorem dX4_keep_35 : decode cX4_keep 35 = .ok (.getfield 11, 3) := by decide +kernel
theorem dX4_keep_38 : decode cX4_keep 38 = .ok (.arraylength, 1) := by decide +kernel
theorem dX4_keep_39 : decode cX4_keep 39 = .ok (.if_icmp .ge 23, 3) := by decide +kernel
theorem dX4_keep_42 : decode cX4_keep 42 = .ok (.aload_n 0, 1) := by decide +kernel
theorem dX4_keep_43 : decode cX4_keep 43 = .ok (.getfield 11, 3) := by decide +kernel
theorem dX4_keep_46 : decode cX4_keep 46 = .ok (.iload_n 2, 1) := by decide +kernel
theorem dX4_keep_47 : decode cX4_keep 47 = .ok (.iconst 1, 1) := by decide +kernel
theorem dX4_keep_48 : decode cX4_keep 48 = .ok (.isub, 1) := by decide +kernel
theorem dX4_keep_49 : decode cX4_keep 49 = .ok (.aload_n 0, 1) := by decide +kernel
theorem dX4_keep_50 : decode cX4_keep 50 = .ok (.getfield 11, 3) := by decide +kernel
theorem dX4_keep_53 : decode cX4_keep 53 = .ok (.iload_n 2, 1) := by decide +kernel
theorem dX4_keep_54 : decode cX4_keep 54 = .ok (.aaload, 1) := by decide +kernel
theorem dX4_keep_55 : decode cX4_keep 55 = .ok (.aastore, 1) := by decide +kernel
theorem dX4_keep_56 : decode cX4_keep 56 = .ok (.iinc 2 1, 3) := by decide +kernel
theorem dX4_keep_59 : decode cX4_keep 59 = .ok (.goto (-26), 3) := by decide +kernel
theorem dX4_keep_62 : decode cX4_keep 62 = .ok (.aload_n 0, 1) := by decide +kernel
theorem dX4_keep_63 : decode cX4_keep 63 = .ok (.getfield 11, 3) := by decide +kernel
theorem dX4_keep_66 : decode cX4_keep 66 = .ok (.iconst 4, 1) := by decide +kernel
theorem dX4_keep_67 : decode cX4_keep 67 = .ok (.aload_n 1, 1) := by decide +kernel
theorem dX4_keep_68 : decode cX4_keep 68 = .ok (.aastore, 1) := by decide +kernel
theorem dX4_keep_69 : decode cX4_keep 69 = .ok (.return_, 1) := by decide +kernel
theorem dX4_restore_0 : decode cX4_restore 0 = .ok (.aload_n 0, 1) := by decide +kernel
theorem dX4_restore_1 : decode cX4_restore 1 = .ok (.getfield 18, 3) := by decide +kernel
theorem dX4_restore_4 : decode cX4_restore 4 = .ok (.ifCond .le 15, 3) := by decide +kernel
theorem dX4_restore_7 : decode cX4_restore 7 = .ok (.aload_n 0, 1) := by decide +kernel
theorem dX4_restore_8 : decode cX4_restore 8 = .ok (.getfield 18, 3) := by decide +kernel
theorem dX4_restore_11 : decode cX4_restore 11 = .ok (.aload_n 0, 1) := by decide +kernel
theorem dX4_restore_12 : decode cX4_restore 12 = .ok (.getfield 11, 3) := by decide +kernel
theorem dX4_restore_15 : decode cX4_restore 15 = .ok (.arraylength, 1) := by decide +kernel
theorem dX4_restore_16 : decode cX4_restore 16 = .ok (.if_icmp .le 5, 3) := by decide +kernel
theorem dX4_restore_19 : decode cX4_restore 19 = .ok (.iconst 0, 1) := by decide +kernel
theorem dX4_restore_20 : decode cX4_restore 20 = .ok (.ireturn, 1) := by decide +kernel
theorem dX4_restore_21 : decode cX4_restore 21 = .ok (.aload_n 0, 1) := by decide +kernel
theorem dX4_restore_22 : decode cX4_restore 22 = .ok (.dup, 1) := by decide +kernel
theorem dX4_restore_23 : decode cX4_restore 23 = .ok (.getfield 18, 3) := by decide +kernel
theorem dX4_restore_26 : decode cX4_restore 26 = .ok (.iconst 1, 1) := by decide +kernel
theorem dX4_restore_27 : decode cX4_restore 27 = .ok (.isub, 1) := by decide +kernel
theorem dX4_restore_28 : decode cX4_restore 28 = .ok (.putfield 18, 3) := by decide +kernel
theorem dX4_restore_31 : decode cX4_restore 31 = .ok (.aload_n 1, 1) := by decide +kernel
theorem dX4_restore_32 : decode cX4_restore 32 = .ok (.aload_n 0, 1) := by decide +kernel
theorem dX4_restore_33 : decode cX4_restore 33 = .ok (.getfield 11, 3) := by decide +kernel
theorem dX4_restore_36 : decode cX4_restore 36 = .ok (.aload_n 0, 1) := by decide +kernel
theorem dX4_restore_37 : decode cX4_restore 37 = .ok (.getfield 18, 3) := by decide +kernel
theorem dX4_restore_40 : decode cX4_restore 40 = .ok (.aaload, 1) := by decide +kernel
theorem dX4_restore_41 : decode cX4_restore 41 = .ok (.invokevirtual 22, 3) := by decide +kernel
theorem dX4_restore_44 : decode cX4_restore 44 = .ok (.iconst 1, 1) := by decide +kernel
theorem dX4_restore_45 : decode cX4_restore 45 = .ok (.ireturn, 1) := by decide +kernel
theorem dX5_init_0 : decode cX5_init 0 = .ok (.aload_n 0, 1) := by decide +kernel
theorem dX5_init_1 : decode cX5_init 1 = .ok (.invokespecial 3, 3) := by decide +kernel
theorem dX5_init_4 : decode cX5_init 4 = .ok (.aload_n 0, 1) := by decide +kernel
theorem dX5_init_5 : decode cX5_init 5 = .ok (.iconst 5, 1) := by decide +kernel
theorem dX5_init_6 : decode cX5_init 6 = .ok (.newarray .int, 2) := by decide +kernel
theorem dX5_init_8 : decode cX5_init 8 = .ok (.putfield 9, 3) := by decide +kernel
theorem dX5_init_11 : decode cX5_init 11 = .ok (.aload_n 0, 1) := by decide +kernel
theorem dX5_init_12 : decode cX5_init 12 = .ok (.aload_n 1, 1) := by decide +kernel
theorem dX5_init_13 : decode cX5_init 13 = .ok (.putfield 15, 3) := by decide +kernel
theorem dX5_init_16 : decode cX5_init 16 = .ok (.return_, 1) := by decide +kernel
theorem dX5_tryOut_0 : decode cX5_tryOut 0 = .ok (.aload_n 2, 1) := by decide +kernel
theorem dX5_tryOut_1 : decode cX5_tryOut 1 = .ok (.aload_n 1, 1) := by decide +kernel
theorem dX5_tryOut_2 : decode cX5_tryOut 2 = .ok (.invokevirtual 19, 3) := by decide +kernel
theorem dX5_tryOut_5 : decode cX5_tryOut 5 = .ok (.aload_n 0, 1) := by decide +kernel
theorem dX5_tryOut_6 : decode cX5_tryOut 6 = .ok (.iconst 0, 1) := by decide +kernel
theorem dX5_tryOut_7 : decode cX5_tryOut 7 = .ok (.putfield 25, 3) := by decide +kernel
theorem dX5_tryOut_10 : decode cX5_tryOut 10 = .ok (.aload_n 0, 1) := by decide +kernel
theorem dX5_tryOut_11 : decode cX5_tryOut 11 = .ok (.iconst 0, 1) := by decide +kernel
theorem dX5_tryOut_12 : decode cX5_tryOut 12 = .ok (.putfield 29, 3) := by decide +kernel
theorem dX5_tryOut_15 : decode cX5_tryOut 15 = .ok (.aload_n 0, 1) := by decide +kernel
theorem dX5_tryOut_16 : decode cX5_tryOut 16 = .ok (.iconst 0, 1) := by decide +kernel
theorem dX5_tryOut_17 : decode cX5_tryOut 17 = .ok (.putfield 32, 3) := by decide +kernel
theorem dX5_tryOut_20 : decode cX5_tryOut 20 = .ok (.iconst 0, 1) := by decide +kernel
theorem dX5_tryOut_21 : decode cX5_tryOut 21 = .ok (.istore_n 3, 1) := by decide +kernel
theorem dX5_tryOut_22 : decode cX5_tryOut 22 = .ok (.iload_n 3, 1) := by decide +kernel
theorem dX5_tryOut_23 : decode cX5_tryOut 23 = .ok (.bipush 60, 2) := by decide +kernel
theorem dX5_tryOut_25 : decode cX5_tryOut 25 = .ok (.if_icmp .ge 83, 3) := by decide +kernel
theorem dX5_tryOut_28 : decode cX5_tryOut 28 = .ok (.aload_n 0, 1) := by decide +kernel
theorem dX5_tryOut_29 : decode cX5_tryOut 29 = .ok (.getfield 25, 3) := by decide +kernel
theorem dX5_tryOut_32 : decode cX5_tryOut 32 = .ok (.aload_n 0, 1) := by decide +kernel
theorem dX5_tryOut_33 : decode cX5_tryOut 33 = .ok (.getfield 15, 3) := by decide +kernel
theorem dX5_tryOut_36 : decode cX5_tryOut 36 = .ok (.getfield 35, 3) := by decide +kernel
theorem dX5_tryOut_39 : decode cX5_tryOut 39 = .ok (.if_icmp .ge 69, 3) := by decide +kernel
theorem dX5_tryOut_42 : decode cX5_tryOut 42 = .ok (.aload_n 0, 1) := by decide +kernel
theorem dX5_tryOut_43 : decode cX5_tryOut 43 = .ok (.aload_n 0, 1) := by decide +kernel
theorem dX5_tryOut_44 : decode cX5_tryOut 44 = .ok (.getfield 25, 3) := by decide +kernel
theorem dX5_tryOut_47 : decode cX5_tryOut 47 = .ok (.putfield 40, 3) := by decide +kernel
theorem dX5_tryOut_50 : decode cX5_tryOut 50 = .ok (.aload_n 0, 1) := by decide +kernel
theorem dX5_tryOut_51 : decode cX5_tryOut 51 = .ok (.invokevirtual 43, 3) := by decide +kernel
theorem dX5_tryOut_54 : decode cX5_tryOut 54 = .ok (.ifCond .ne 18, 3) := by decide +kernel
theorem dX5_tryOut_57 : decode cX5_tryOut 57 = .ok (.aload_n 0, 1) := by decide +kernel
theorem dX5_tryOut_58 : decode cX5_tryOut 58 = .ok (.iconst 1, 1) := by decide +kernel
theorem dX5_tryOut_59 : decode cX5_tryOut 59 = .ok (.aload_n 0, 1) := by decide +kernel
theorem dX5_tryOut_60 : decode cX5_tryOut 60 = .ok (.getfield 25, 3) := by decide +kernel
theorem dX5_tryOut_63 : decode cX5_tryOut 63 = .ok (.aload_n 0, 1) := by decide +kernel
theorem dX5_tryOut_64 : decode cX5_tryOut 64 = .ok (.getfield 40, 3) := by decide +kernel
theorem dX5_tryOut_67 : decode cX5_tryOut 67 = .ok (.isub, 1) := by decide +kernel
theorem dX5_tryOut_68 : decode cX5_tryOut 68 = .ok (.invokevirtual 47, 3) := by decide +kernel
theorem dX5_tryOut_71 : decode cX5_tryOut 71 = .ok (.return_, 1) := by decide +kernel
theorem dX5_tryOut_72 : decode cX5_tryOut 72 = .ok (.aload_n 0, 1) := by decide +kernel
theorem dX5_tryOut_73 : decode cX5_tryOut 73 = .ok (.aload_n 2, 1) := by decide +kernel
theorem dX5_tryOut_74 : decode cX5_tryOut 74 = .ok (.invokevirtual 51, 3) := by decide +kernel
theorem dX5_tryOut_77 : decode cX5_tryOut 77 = .ok (.istore 4, 2) := by decide +kernel
theorem dX5_tryOut_79 : decode cX5_tryOut 79 = .ok (.iload 4, 2) := by decide +kernel
theorem dX5_tryOut_81 : decode cX5_tryOut 81 = .ok (.ifCond .ge 11, 3) := by decide +kernel
theorem dX5_tryOut_84 : decode cX5_tryOut 84 = .ok (.aload_n 0, 1) := by decide +kernel
theorem dX5_tryOut_85 : decode cX5_tryOut 85 = .ok (.iconst 2, 1) := by decide +kernel
theorem dX5_tryOut_86 : decode cX5_tryOut 86 = .ok (.iload 4, 2) := by decide +kernel
theorem dX5_tryOut_88 : decode cX5_tryOut 88 = .ok (.invokevirtual 47, 3) := by decide +kernel
theorem dX5_tryOut_91 : decode cX5_tryOut 91 = .ok (.return_, 1) := by decide +kernel
theorem dX5_tryOut_92 : decode cX5_tryOut 92 = .ok (.aload_n 0, 1) := by decide +kernel
theorem dX5_tryOut_93 : decode cX5_tryOut 93 = .ok (.dup, 1) := by decide +kernel
theorem dX5_tryOut_94 : decode cX5_tryOut 94 = .ok (.getfield 29, 3) := by decide +kernel
theorem dX5_tryOut_97 : decode cX5_tryOut 97 = .ok (.iconst 1, 1) := by decide +kernel
theorem dX5_tryOut_98 : decode cX5_tryOut 98 = .ok (.iadd, 1) := by decide +kernel
theorem dX5_tryOut_99 : decode cX5_tryOut 99 = .ok (.putfield 29, 3) := by decide +kernel
theorem dX5_tryOut_102 : decode cX5_tryOut 102 = .ok (.iinc 3 1, 3) := by decide +kernel
theorem dX5_tryOut_105 : decode cX5_tryOut 105 = .ok (.goto (-83), 3) := by decide +kernel
theorem dX5_tryOut_108 : decode cX5_tryOut 108 = .ok (.return_, 1) := by decide +kernel
theorem dX5_setFault_0 : decode cX5_setFault 0 = .ok (.aload_n 0, 1) := by decide +kernel
theorem dX5_setFault_1 : decode cX5_setFault 1 = .ok (.iload_n 1, 1) := by decide +kernel
theorem dX5_setFault_2 : decode cX5_setFault 2 = .ok (.putfield 32, 3) := by decide +kernel
theorem dX5_setFault_5 : decode cX5_setFault 5 = .ok (.aload_n 0, 1) := by decide +kernel
theorem dX5_setFault_6 : decode cX5_setFault 6 = .ok (.iload_n 2, 1) := by decide +kernel
theorem dX5_setFault_7 : decode cX5_setFault 7 = .ok (.putfield 55, 3) := by decide +kernel
theorem dX5_setFault_10 : decode cX5_setFault 10 = .ok (.return_, 1) := by decide +kernel
theorem dX5_readOrder_0 : decode cX5_readOrder 0 = .ok (.aload_n 0, 1) := by decide +kernel
theorem dX5_readOrder_1 : decode cX5_readOrder 1 = .ok (.getfield 15, 3) := by decide +kernel
theorem dX5_readOrder_4 : decode cX5_readOrder 4 = .ok (.aload_n 0, 1) := by decide +kernel
theorem dX5_readOrder_5 : decode cX5_readOrder 5 = .ok (.getfield 40, 3) := by decide +kernel
theorem dX5_readOrder_8 : decode cX5_readOrder 8 = .ok (.invokevirtual 58, 3) := by decide +kernel
theorem dX5_readOrder_11 : decode cX5_readOrder 11 = .ok (.invokestatic 62, 3) := by decide +kernel
theorem dX5_readOrder_14 : decode cX5_readOrder 14 = .ok (.istore_n 1, 1) := by decide +kernel
theorem dX5_readOrder_15 : decode cX5_readOrder 15 = .ok (.iload_n 1, 1) := by decide +kernel
theorem dX5_readOrder_16 : decode cX5_readOrder 16 = .ok (.ifCond .ne 5, 3) := by decide +kernel
theorem dX5_readOrder_19 : decode cX5_readOrder 19 = .ok (.iconst 0, 1) := by decide +kernel
theorem dX5_readOrder_20 : decode cX5_readOrder 20 = .ok (.ireturn, 1) := by decide +kernel
theorem dX5_readOrder_21 : decode cX5_readOrder 21 = .ok (.aload_n 0, 1) := by decide +kernel
theorem dX5_readOrder_22 : decode cX5_readOrder 22 = .ok (.dup, 1) := by decide +kernel
theorem dX5_readOrder_23 : decode cX5_readOrder 23 = .ok (.getfield 25, 3) := by decide +kernel
theorem dX5_readOrder_26 : decode cX5_readOrder 26 = .ok (.iconst 1, 1) := by decide +kernel
theorem dX5_readOrder_27 : decode cX5_readOrder 27 = .ok (.iadd, 1) := by decide +kernel
theorem dX5_readOrder_28 : decode cX5_readOrder 28 = .ok (.putfield 25, 3) := by decide +kernel
theorem dX5_readOrder_31 : decode cX5_readOrder 31 = .ok (.iconst 0, 1) := by decide +kernel
theorem dX5_readOrder_32 : decode cX5_readOrder 32 = .ok (.istore_n 2, 1) := by decide +kernel
theorem dX5_readOrder_33 : decode cX5_readOrder 33 = .ok (.iload_n 2, 1) := by decide +kernel
theorem dX5_readOrder_34 : decode cX5_readOrder 34 = .ok (.iload_n 1, 1) := by decide +kernel
theorem dX5_readOrder_35 : decode cX5_readOrder 35 = .ok (.if_icmp .ge 59, 3) := by decide +kernel
theorem dX5_readOrder_38 : decode cX5_readOrder 38 = .ok (.iload_n 2, 1) := by decide +kernel
theorem dX5_readOrder_39 : decode cX5_readOrder 39 = .ok (.iconst 1, 1) := by decide +kernel
theorem dX5_readOrder_40 : decode cX5_readOrder 40 = .ok (.iadd, 1) := by decide +kernel
theorem dX5_readOrder_41 : decode cX5_readOrder 41 = .ok (.iload_n 1, 1) := by decide +kernel
theorem dX5_readOrder_42 : decode cX5_readOrder 42 = .ok (.if_icmp .ge 8, 3) := by decide +kernel
theorem dX5_readOrder_45 : decode cX5_readOrder 45 = .ok (.bipush 44, 2) := by decide +kernel
theorem dX5_readOrder_47 : decode cX5_readOrder 47 = .ok (.goto 5, 3) := by decide +kernel
theorem dX5_readOrder_50 : decode cX5_readOrder 50 = .ok (.bipush 59, 2) := by decide +kernel
theorem dX5_readOrder_52 : decode cX5_readOrder 52 = .ok (.istore_n 3, 1) := by decide +kernel
theorem dX5_readOrder_53 : decode cX5_readOrder 53 = .ok (.aload_n 0, 1) := by decide +kernel
theorem dX5_readOrder_54 : decode cX5_readOrder 54 = .ok (.iload_n 2, 1) := by decide +kernel
theorem dX5_readOrder_55 : decode cX5_readOrder 55 = .ok (.invokevirtual 66, 3) := by decide +kernel
theorem dX5_readOrder_58 : decode cX5_readOrder 58 = .ok (.ifCond .eq 18, 3) := by decide +kernel
theorem dX5_readOrder_61 : decode cX5_readOrder 61 = .ok (.aload_n 0, 1) := by decide +kernel
theorem dX5_readOrder_62 : decode cX5_readOrder 62 = .ok (.getfield 15, 3) := by decide +kernel
theorem dX5_readOrder_65 : decode cX5_readOrder 65 = .ok (.aload_n 0, 1) := by decide +kernel
theorem dX5_readOrder_66 : decode cX5_readOrder 66 = .ok (.getfield 25, 3) := by decide +kernel
theorem dX5_readOrder_69 : decode cX5_readOrder 69 = .ok (.invokevirtual 58, 3) := by decide +kernel
theorem dX5_readOrder_72 : decode cX5_readOrder 72 = .ok (.iload_n 3, 1) := by decide +kernel
theorem dX5_readOrder_73 : decode cX5_readOrder 73 = .ok (.if_icmp .eq 5, 3) := by decide +kernel
theorem dX5_readOrder_76 : decode cX5_readOrder 76 = .ok (.iconst 0, 1) := by decide +kernel
theorem dX5_readOrder_77 : decode cX5_readOrder 77 = .ok (.ireturn, 1) := by decide +kernel
theorem dX5_readOrder_78 : decode cX5_readOrder 78 = .ok (.aload_n 0, 1) := by decide +kernel
theorem dX5_readOrder_79 : decode cX5_readOrder 79 = .ok (.dup, 1) := by decide +kernel
theorem dX5_readOrder_80 : decode cX5_readOrder 80 = .ok (.getfield 25, 3) := by decide +kernel
theorem dX5_readOrder_83 : decode cX5_readOrder 83 = .ok (.iconst 1, 1) := by decide +kernel
theorem dX5_readOrder_84 : decode cX5_readOrder 84 = .ok (.iadd, 1) := by decide +kernel
theorem dX5_readOrder_85 : decode cX5_readOrder 85 = .ok (.putfield 25, 3) := by decide +kernel
theorem dX5_readOrder_88 : decode cX5_readOrder 88 = .ok (.iinc 2 1, 3) := by decide +kernel
theorem dX5_readOrder_91 : decode cX5_readOrder 91 = .ok (.goto (-58), 3) := by decide +kernel
theorem dX5_readOrder_94 : decode cX5_readOrder 94 = .ok (.iconst 1, 1) := by decide +kernel
theorem dX5_readOrder_95 : decode cX5_readOrder 95 = .ok (.ireturn, 1) := by decide +kernel
theorem dX5_numbersBehind_0 : decode cX5_numbersBehind 0 = .ok (.iload_n 0, 1) := by decide +kernel
theorem dX5_numbersBehind_1 : decode cX5_numbersBehind 1 = .ok (.lookupswitch 57 #[(99, 51), (106, 53), (112, 55), (116, 55), (119, 55)], 51) := by decide +kernel
theorem dX5_numbersBehind_52 : decode cX5_numbersBehind 52 = .ok (.iconst 5, 1) := by decide +kernel
theorem dX5_numbersBehind_53 : decode cX5_numbersBehind 53 = .ok (.ireturn, 1) := by decide +kernel
theorem dX5_numbersBehind_54 : decode cX5_numbersBehind 54 = .ok (.iconst 2, 1) := by decide +kernel
theorem dX5_numbersBehind_55 : decode cX5_numbersBehind 55 = .ok (.ireturn, 1) := by decide +kernel
theorem dX5_numbersBehind_56 : decode cX5_numbersBehind 56 = .ok (.iconst 1, 1) := by decide +kernel
theorem dX5_numbersBehind_57 : decode cX5_numbersBehind 57 = .ok (.ireturn, 1) := by decide +kernel
theorem dX5_numbersBehind_58 : decode cX5_numbersBehind 58 = .ok (.iconst 0, 1) := by decide +kernel
theorem dX5_numbersBehind_59 : decode cX5_numbersBehind 59 = .ok (.ireturn, 1) := by decide +kernel
theorem dX5_readNumber_0 : decode cX5_readNumber 0 = .ok (.iconst 0, 1) := by decide +kernel
theorem dX5_readNumber_1 : decode cX5_readNumber 1 = .ok (.istore_n 2, 1) := by decide +kernel
theorem dX5_readNumber_2 : decode cX5_readNumber 2 = .ok (.iconst 0, 1) := by decide +kernel
theorem dX5_readNumber_3 : decode cX5_readNumber 3 = .ok (.istore_n 3, 1) := by decide +kernel
theorem dX5_readNumber_4 : decode cX5_readNumber 4 = .ok (.iload_n 3, 1) := by decide +kernel
theorem dX5_readNumber_5 : decode cX5_readNumber 5 = .ok (.iconst 3, 1) := by decide +kernel
theorem dX5_readNumber_6 : decode cX5_readNumber 6 = .ok (.if_icmp .ge 56, 3) := by decide +kernel
theorem dX5_readNumber_9 : decode cX5_readNumber 9 = .ok (.aload_n 0, 1) := by decide +kernel
theorem dX5_readNumber_10 : decode cX5_readNumber 10 = .ok (.getfield 15, 3) := by decide +kernel
theorem dX5_readNumber_13 : decode cX5_readNumber 13 = .ok (.aload_n 0, 1) := by decide +kernel
theorem dX5_readNumber_14 : decode cX5_readNumber 14 = .ok (.getfield 25, 3) := by decide +kernel
theorem dX5_readNumber_17 : decode cX5_readNumber 17 = .ok (.invokevirtual 58, 3) := by decide +kernel
theorem dX5_readNumber_20 : decode cX5_readNumber 20 = .ok (.invokestatic 70, 3) := by decide +kernel
theorem dX5_readNumber_23 : decode cX5_readNumber 23 = .ok (.ifCond .eq 39, 3) := by decide +kernel
theorem dX5_readNumber_26 : decode cX5_readNumber 26 = .ok (.iload_n 2, 1) := by decide +kernel
theorem dX5_readNumber_27 : decode cX5_readNumber 27 = .ok (.bipush 10, 2) := by decide +kernel
theorem dX5_readNumber_29 : decode cX5_readNumber 29 = .ok (.imul, 1) := by decide +kernel
theorem dX5_readNumber_30 : decode cX5_readNumber 30 = .ok (.aload_n 0, 1) := by decide +kernel
theorem dX5_readNumber_31 : decode cX5_readNumber 31 = .ok (.getfield 15, 3) := by decide +kernel
theorem dX5_readNumber_34 : decode cX5_readNumber 34 = .ok (.aload_n 0, 1) := by decide +kernel
theorem dX5_readNumber_35 : decode cX5_readNumber 35 = .ok (.getfield 25, 3) := by decide +kernel
theorem dX5_readNumber_38 : decode cX5_readNumber 38 = .ok (.invokevirtual 58, 3) := by decide +kernel
theorem dX5_readNumber_41 : decode cX5_readNumber 41 = .ok (.bipush 48, 2) := by decide +kernel
theorem dX5_readNumber_43 : decode cX5_readNumber 43 = .ok (.isub, 1) := by decide +kernel
theorem dX5_readNumber_44 : decode cX5_readNumber 44 = .ok (.iadd, 1) := by decide +kernel
theorem dX5_readNumber_45 : decode cX5_readNumber 45 = .ok (.istore_n 2, 1) := by decide +kernel
theorem dX5_readNumber_46 : decode cX5_readNumber 46 = .ok (.aload_n 0, 1) := by decide +kernel
theorem dX5_readNumber_47 : decode cX5_readNumber 47 = .ok (.dup, 1) := by decide +kernel
theorem dX5_readNumber_48 : decode cX5_readNumber 48 = .ok (.getfield 25, 3) := by decide +kernel
theorem dX5_readNumber_51 : decode cX5_readNumber 51 = .ok (.iconst 1, 1) := by decide +kernel
theorem dX5_readNumber_52 : decode cX5_readNumber 52 = .ok (.iadd, 1) := by decide +kernel
theorem dX5_readNumber_53 : decode cX5_readNumber 53 = .ok (.putfield 25, 3) := by decide +kernel
theorem dX5_readNumber_56 : decode cX5_readNumber 56 = .ok (.iinc 3 1, 3) := by decide +kernel
theorem dX5_readNumber_59 : decode cX5_readNumber 59 = .ok (.goto (-55), 3) := by decide +kernel
theorem dX5_readNumber_62 : decode cX5_readNumber 62 = .ok (.iload_n 3, 1) := by decide +kernel
theorem dX5_readNumber_63 : decode cX5_readNumber 63 = .ok (.ifCond .eq 16, 3) := by decide +kernel
theorem dX5_readNumber_66 : decode cX5_readNumber 66 = .ok (.iload_n 1, 1) := by decide +kernel
theorem dX5_readNumber_67 : decode cX5_readNumber 67 = .ok (.ifCond .lt 12, 3) := by decide +kernel
theorem dX5_readNumber_70 : decode cX5_readNumber 70 = .ok (.iload_n 1, 1) := by decide +kernel
theorem dX5_readNumber_71 : decode cX5_readNumber 71 = .ok (.aload_n 0, 1) := by decide +kernel
theorem dX5_readNumber_72 : decode cX5_readNumber 72 = .ok (.getfield 9, 3) := by decide +kernel
theorem dX5_readNumber_75 : decode cX5_readNumber 75 = .ok (.arraylength, 1) := by decide +kernel
theorem dX5_readNumber_76 : decode cX5_readNumber 76 = .ok (.if_icmp .lt 5, 3) := by decide +kernel
theorem dX5_readNumber_79 : decode cX5_readNumber 79 = .ok (.iconst 0, 1) := by decide +kernel
theorem dX5_readNumber_80 : decode cX5_readNumber 80 = .ok (.ireturn, 1) := by decide +kernel
theorem dX5_readNumber_81 : decode cX5_readNumber 81 = .ok (.aload_n 0, 1) := by decide +kernel
theorem dX5_readNumber_82 : decode cX5_readNumber 82 = .ok (.getfield 9, 3) := by decide +kernel
theorem dX5_readNumber_85 : decode cX5_readNumber 85 = .ok (.iload_n 1, 1) := by decide +kernel
theorem dX5_readNumber_86 : decode cX5_readNumber 86 = .ok (.iload_n 2, 1) := by decide +kernel
theorem dX5_readNumber_87 : decode cX5_readNumber 87 = .ok (.iastore, 1) := by decide +kernel
theorem dX5_readNumber_88 : decode cX5_readNumber 88 = .ok (.iconst 1, 1) := by decide +kernel
theorem dX5_readNumber_89 : decode cX5_readNumber 89 = .ok (.ireturn, 1) := by decide +kernel
theorem dX5_isDigit_0 : decode cX5_isDigit 0 = .ok (.iload_n 0, 1) := by decide +kernel
theorem dX5_isDigit_1 : decode cX5_isDigit 1 = .ok (.bipush 48, 2) := by decide +kernel
theorem dX5_isDigit_3 : decode cX5_isDigit 3 = .ok (.if_icmp .lt 13, 3) := by decide +kernel
theorem dX5_isDigit_6 : decode cX5_isDigit 6 = .ok (.iload_n 0, 1) := by decide +kernel
theorem dX5_isDigit_7 : decode cX5_isDigit 7 = .ok (.bipush 57, 2) := by decide +kernel
theorem dX5_isDigit_9 : decode cX5_isDigit 9 = .ok (.if_icmp .gt 7, 3) := by decide +kernel
theorem dX5_isDigit_12 : decode cX5_isDigit 12 = .ok (.iconst 1, 1) := by decide +kernel
theorem dX5_isDigit_13 : decode cX5_isDigit 13 = .ok (.goto 4, 3) := by decide +kernel
theorem dX5_isDigit_16 : decode cX5_isDigit 16 = .ok (.iconst 0, 1) := by decide +kernel
theorem dX5_isDigit_17 : decode cX5_isDigit 17 = .ok (.ireturn, 1) := by decide +kernel
theorem dX5_obey_0 : decode cX5_obey 0 = .ok (.aload_n 0, 1) := by decide +kernel
theorem dX5_obey_1 : decode cX5_obey 1 = .ok (.getfield 15, 3) := by decide +kernel
theorem dX5_obey_4 : decode cX5_obey 4 = .ok (.aload_n 0, 1) := by decide +kernel
theorem dX5_obey_5 : decode cX5_obey 5 = .ok (.getfield 40, 3) := by decide +kernel
theorem dX5_obey_8 : decode cX5_obey 8 = .ok (.invokevirtual 58, 3) := by decide +kernel
theorem dX5_obey_11 : decode cX5_obey 11 = .ok (.lookupswitch 109 #[(99, 41), (112, 87), (116, 76), (119, 98)], 41) := by decide +kernel
theorem dX5_obey_52 : decode cX5_obey 52 = .ok (.aload_n 1, 1) := by decide +kernel
theorem dX5_obey_53 : decode cX5_obey 53 = .ok (.aload_n 0, 1) := by decide +kernel
theorem dX5_obey_54 : decode cX5_obey 54 = .ok (.getfield 9, 3) := by decide +kernel
theorem dX5_obey_57 : decode cX5_obey 57 = .ok (.iconst 0, 1) := by decide +kernel
theorem dX5_obey_58 : decode cX5_obey 58 = .ok (.iaload, 1) := by decide +kernel
theorem dX5_obey_59 : decode cX5_obey 59 = .ok (.aload_n 0, 1) := by decide +kernel
theorem dX5_obey_60 : decode cX5_obey 60 = .ok (.getfield 9, 3) := by decide +kernel
theorem dX5_obey_63 : decode cX5_obey 63 = .ok (.iconst 1, 1) := by decide +kernel
theorem dX5_obey_64 : decode cX5_obey 64 = .ok (.iaload, 1) := by decide +kernel
theorem dX5_obey_65 : decode cX5_obey 65 = .ok (.aload_n 0, 1) := by decide +kernel
theorem dX5_obey_66 : decode cX5_obey 66 = .ok (.getfield 9, 3) := by decide +kernel
theorem dX5_obey_69 : decode cX5_obey 69 = .ok (.iconst 2, 1) := by decide +kernel
theorem dX5_obey_70 : decode cX5_obey 70 = .ok (.iaload, 1) := by decide +kernel
theorem dX5_obey_71 : decode cX5_obey 71 = .ok (.aload_n 0, 1) := by decide +kernel
theorem dX5_obey_72 : decode cX5_obey 72 = .ok (.getfield 9, 3) := by decide +kernel
theorem dX5_obey_75 : decode cX5_obey 75 = .ok (.iconst 3, 1) := by decide +kernel
theorem dX5_obey_76 : decode cX5_obey 76 = .ok (.iaload, 1) := by decide +kernel
theorem dX5_obey_77 : decode cX5_obey 77 = .ok (.aload_n 0, 1) := by decide +kernel
theorem dX5_obey_78 : decode cX5_obey 78 = .ok (.getfield 9, 3) := by decide +kernel
theorem dX5_obey_81 : decode cX5_obey 81 = .ok (.iconst 4, 1) := by decide +kernel
theorem dX5_obey_82 : decode cX5_obey 82 = .ok (.iaload, 1) := by decide +kernel
theorem dX5_obey_83 : decode cX5_obey 83 = .ok (.invokevirtual 74, 3) := by decide +kernel
theorem dX5_obey_86 : decode cX5_obey 86 = .ok (.ireturn, 1) := by decide +kernel
theorem dX5_obey_87 : decode cX5_obey 87 = .ok (.aload_n 1, 1) := by decide +kernel
theorem dX5_obey_88 : decode cX5_obey 88 = .ok (.aload_n 0, 1) := by decide +kernel
theorem dX5_obey_89 : decode cX5_obey 89 = .ok (.getfield 9, 3) := by decide +kernel
theorem dX5_obey_92 : decode cX5_obey 92 = .ok (.iconst 0, 1) := by decide +kernel
theorem dX5_obey_93 : decode cX5_obey 93 = .ok (.iaload, 1) := by decide +kernel
theorem dX5_obey_94 : decode cX5_obey 94 = .ok (.invokevirtual 78, 3) := by decide +kernel
theorem dX5_obey_97 : decode cX5_obey 97 = .ok (.ireturn, 1) := by decide +kernel
theorem dX5_obey_98 : decode cX5_obey 98 = .ok (.aload_n 1, 1) := by decide +kernel
theorem dX5_obey_99 : decode cX5_obey 99 = .ok (.aload_n 0, 1) := by decide +kernel
theorem dX5_obey_100 : decode cX5_obey 100 = .ok (.getfield 9, 3) := by decide +kernel
theorem dX5_obey_103 : decode cX5_obey 103 = .ok (.iconst 0, 1) := by decide +kernel
theorem dX5_obey_104 : decode cX5_obey 104 = .ok (.iaload, 1) := by decide +kernel
theorem dX5_obey_105 : decode cX5_obey 105 = .ok (.invokevirtual 82, 3) := by decide +kernel
theorem dX5_obey_108 : decode cX5_obey 108 = .ok (.ireturn, 1) := by decide +kernel
theorem dX5_obey_109 : decode cX5_obey 109 = .ok (.aload_n 1, 1) := by decide +kernel
theorem dX5_obey_110 : decode cX5_obey 110 = .ok (.aload_n 0, 1) := by decide +kernel
theorem dX5_obey_111 : decode cX5_obey 111 = .ok (.getfield 9, 3) := by decide +kernel
theorem dX5_obey_114 : decode cX5_obey 114 = .ok (.iconst 0, 1) := by decide +kernel
theorem dX5_obey_115 : decode cX5_obey 115 = .ok (.iaload, 1) := by decide +kernel
theorem dX5_obey_116 : decode cX5_obey 116 = .ok (.invokevirtual 85, 3) := by decide +kernel
theorem dX5_obey_119 : decode cX5_obey 119 = .ok (.ireturn, 1) := by decide +kernel
theorem dX5_obey_120 : decode cX5_obey 120 = .ok (.aload_n 1, 1) := by decide +kernel
theorem dX5_obey_121 : decode cX5_obey 121 = .ok (.aload_n 0, 1) := by decide +kernel
theorem dX5_obey_122 : decode cX5_obey 122 = .ok (.getfield 9, 3) := by decide +kernel
theorem dX5_obey_125 : decode cX5_obey 125 = .ok (.iconst 0, 1) := by decide +kernel
theorem dX5_obey_126 : decode cX5_obey 126 = .ok (.iaload, 1) := by decide +kernel
theorem dX5_obey_127 : decode cX5_obey 127 = .ok (.aload_n 0, 1) := by decide +kernel
theorem dX5_obey_128 : decode cX5_obey 128 = .ok (.getfield 9, 3) := by decide +kernel
theorem dX5_obey_131 : decode cX5_obey 131 = .ok (.iconst 1, 1) := by decide +kernel
theorem dX5_obey_132 : decode cX5_obey 132 = .ok (.iaload, 1) := by decide +kernel
theorem dX5_obey_133 : decode cX5_obey 133 = .ok (.invokevirtual 88, 3) := by decide +kernel
theorem dX5_obey_136 : decode cX5_obey 136 = .ok (.ireturn, 1) := by decide +kernel
theorem dX6_init_0 : decode cX6_init 0 = .ok (.aload_n 0, 1) := by decide +kernel
theorem dX6_init_1 : decode cX6_init 1 = .ok (.invokespecial 3, 3) := by decide +kernel
theorem dX6_init_4 : decode cX6_init 4 = .ok (.aload_n 0, 1) := by decide +kernel
theorem dX6_init_5 : decode cX6_init 5 = .ok (.bipush 60, 2) := by decide +kernel
theorem dX6_init_7 : decode cX6_init 7 = .ok (.newarray .char, 2) := by decide +kernel
theorem dX6_init_9 : decode cX6_init 9 = .ok (.putfield 9, 3) := by decide +kernel
theorem dX6_init_12 : decode cX6_init 12 = .ok (.return_, 1) := by decide +kernel
theorem dX6_append_0 : decode cX6_append 0 = .ok (.aload_n 0, 1) := by decide +kernel
theorem dX6_append_1 : decode cX6_append 1 = .ok (.getfield 15, 3) := by decide +kernel
theorem dX6_append_4 : decode cX6_append 4 = .ok (.ifCond .lt 15, 3) := by decide +kernel
theorem dX6_append_7 : decode cX6_append 7 = .ok (.aload_n 0, 1) := by decide +kernel
theorem dX6_append_8 : decode cX6_append 8 = .ok (.getfield 15, 3) := by decide +kernel
theorem dX6_append_11 : decode cX6_append 11 = .ok (.aload_n 0, 1) := by decide +kernel
theorem dX6_append_12 : decode cX6_append 12 = .ok (.getfield 9, 3) := by decide +kernel
theorem dX6_append_15 : decode cX6_append 15 = .ok (.arraylength, 1) := by decide +kernel
theorem dX6_append_16 : decode cX6_append 16 = .ok (.if_icmp .lt 5, 3) := by decide +kernel
theorem dX6_append_19 : decode cX6_append 19 = .ok (.iconst 0, 1) := by decide +kernel
theorem dX6_append_20 : decode cX6_append 20 = .ok (.ireturn, 1) := by decide +kernel
theorem dX6_append_21 : decode cX6_append 21 = .ok (.aload_n 0, 1) := by decide +kernel
theorem dX6_append_22 : decode cX6_append 22 = .ok (.getfield 9, 3) := by decide +kernel
theorem dX6_append_25 : decode cX6_append 25 = .ok (.aload_n 0, 1) := by decide +kernel
theorem dX6_append_26 : decode cX6_append 26 = .ok (.getfield 15, 3) := by decide +kernel
theorem dX6_append_29 : decode cX6_append 29 = .ok (.iload_n 1, 1) := by decide +kernel
theorem dX6_append_30 : decode cX6_append 30 = .ok (.castore, 1) := by decide +kernel
theorem dX6_append_31 : decode cX6_append 31 = .ok (.aload_n 0, 1) := by decide +kernel
theorem dX6_append_32 : decode cX6_append 32 = .ok (.dup, 1) := by decide +kernel
theorem dX6_append_33 : decode cX6_append 33 = .ok (.getfield 15, 3) := by decide +kernel
theorem dX6_append_36 : decode cX6_append 36 = .ok (.iconst 1, 1) := by decide +kernel
theorem dX6_append_37 : decode cX6_append 37 = .ok (.iadd, 1) := by decide +kernel
theorem dX6_append_38 : decode cX6_append 38 = .ok (.putfield 15, 3) := by decide +kernel
theorem dX6_append_41 : decode cX6_append 41 = .ok (.iconst 1, 1) := by decide +kernel
theorem dX6_append_42 : decode cX6_append 42 = .ok (.ireturn, 1) := by decide +kernel
theorem dX6_signAt_0 : decode cX6_signAt 0 = .ok (.iload_n 1, 1) := by decide +kernel
theorem dX6_signAt_1 : decode cX6_signAt 1 = .ok (.ifCond .lt 29, 3) := by decide +kernel
theorem dX6_signAt_4 : decode cX6_signAt 4 = .ok (.iload_n 1, 1) := by decide +kernel
theorem dX6_signAt_5 : decode cX6_signAt 5 = .ok (.aload_n 0, 1) := by decide +kernel
theorem dX6_signAt_6 : decode cX6_signAt 6 = .ok (.getfield 15, 3) := by decide +kernel
theorem dX6_signAt_9 : decode cX6_signAt 9 = .ok (.if_icmp .ge 21, 3) := by decide +kernel
theorem dX6_signAt_12 : decode cX6_signAt 12 = .ok (.iload_n 1, 1) := by decide +kernel
theorem dX6_signAt_13 : decode cX6_signAt 13 = .ok (.aload_n 0, 1) := by decide +kernel
theorem dX6_signAt_14 : decode cX6_signAt 14 = .ok (.getfield 9, 3) := by decide +kernel
theorem dX6_signAt_17 : decode cX6_signAt 17 = .ok (.arraylength, 1) := by decide +kernel
theorem dX6_signAt_18 : decode cX6_signAt 18 = .ok (.if_icmp .ge 12, 3) := by decide +kernel
theorem dX6_signAt_21 : decode cX6_signAt 21 = .ok (.aload_n 0, 1) := by decide +kernel
theorem dX6_signAt_22 : decode cX6_signAt 22 = .ok (.getfield 9, 3) := by decide +kernel
theorem dX6_signAt_25 : decode cX6_signAt 25 = .ok (.iload_n 1, 1) := by decide +kernel
theorem dX6_signAt_26 : decode cX6_signAt 26 = .ok (.caload, 1) := by decide +kernel
theorem dX6_signAt_27 : decode cX6_signAt 27 = .ok (.goto 4, 3) := by decide +kernel
theorem dX6_signAt_30 : decode cX6_signAt 30 = .ok (.iconst 0, 1) := by decide +kernel
theorem dX6_signAt_31 : decode cX6_signAt 31 = .ok (.ireturn, 1) := by decide +kernel
theorem dX7_init_0 : decode cX7_init 0 = .ok (.aload_n 0, 1) := by decide +kernel
theorem dX7_init_1 : decode cX7_init 1 = .ok (.invokespecial 3, 3) := by decide +kernel
theorem dX7_init_4 : decode cX7_init 4 = .ok (.aload_n 0, 1) := by decide +kernel
theorem dX7_init_5 : decode cX7_init 5 = .ok (.new 9, 3) := by decide +kernel
theorem dX7_init_8 : decode cX7_init 8 = .ok (.dup, 1) := by decide +kernel
theorem dX7_init_9 : decode cX7_init 9 = .ok (.invokespecial 11, 3) := by decide +kernel
theorem dX7_init_12 : decode cX7_init 12 = .ok (.putfield 12, 3) := by decide +kernel
theorem dX7_init_15 : decode cX7_init 15 = .ok (.aload_n 0, 1) := by decide +kernel
theorem dX7_init_16 : decode cX7_init 16 = .ok (.new 9, 3) := by decide +kernel
theorem dX7_init_19 : decode cX7_init 19 = .ok (.dup, 1) := by decide +kernel
theorem dX7_init_20 : decode cX7_init 20 = .ok (.invokespecial 11, 3) := by decide +kernel
theorem dX7_init_23 : decode cX7_init 23 = .ok (.putfield 16, 3) := by decide +kernel
theorem dX7_init_26 : decode cX7_init 26 = .ok (.aload_n 0, 1) := by decide +kernel
theorem dX7_init_27 : decode cX7_init 27 = .ok (.new 19, 3) := by decide +kernel
theorem dX7_init_30 : decode cX7_init 30 = .ok (.dup, 1) := by decide +kernel
theorem dX7_init_31 : decode cX7_init 31 = .ok (.invokespecial 21, 3) := by decide +kernel
theorem dX7_init_34 : decode cX7_init 34 = .ok (.putfield 22, 3) := by decide +kernel
theorem dX7_init_37 : decode cX7_init 37 = .ok (.aload_n 0, 1) := by decide +kernel
theorem dX7_init_38 : decode cX7_init 38 = .ok (.new 26, 3) := by decide +kernel
theorem dX7_init_41 : decode cX7_init 41 = .ok (.dup, 1) := by decide +kernel
theorem dX7_init_42 : decode cX7_init 42 = .ok (.invokespecial 28, 3) := by decide +kernel
theorem dX7_init_45 : decode cX7_init 45 = .ok (.putfield 29, 3) := by decide +kernel
theorem dX7_init_48 : decode cX7_init 48 = .ok (.aload_n 0, 1) := by decide +kernel
theorem dX7_init_49 : decode cX7_init 49 = .ok (.new 33, 3) := by decide +kernel
theorem dX7_init_52 : decode cX7_init 52 = .ok (.dup, 1) := by decide +kernel
theorem dX7_init_53 : decode cX7_init 53 = .ok (.aload_n 0, 1) := by decide +kernel
theorem dX7_init_54 : decode cX7_init 54 = .ok (.getfield 29, 3) := by decide +kernel
theorem dX7_init_57 : decode cX7_init 57 = .ok (.invokespecial 35, 3) := by decide +kernel
theorem dX7_init_60 : decode cX7_init 60 = .ok (.putfield 38, 3) := by decide +kernel
theorem dX7_init_63 : decode cX7_init 63 = .ok (.return_, 1) := by decide +kernel
theorem dX7_clock_0 : decode cX7_clock 0 = .ok (.aload_n 0, 1) := by decide +kernel
theorem dX7_clock_1 : decode cX7_clock 1 = .ok (.getfield 22, 3) := by decide +kernel
theorem dX7_clock_4 : decode cX7_clock 4 = .ok (.aload_n 0, 1) := by decide +kernel
theorem dX7_clock_5 : decode cX7_clock 5 = .ok (.getfield 12, 3) := by decide +kernel
theorem dX7_clock_8 : decode cX7_clock 8 = .ok (.invokevirtual 42, 3) := by decide +kernel
theorem dX7_clock_11 : decode cX7_clock 11 = .ok (.aload_n 0, 1) := by decide +kernel
theorem dX7_clock_12 : decode cX7_clock 12 = .ok (.aload_n 0, 1) := by decide +kernel
theorem dX7_clock_13 : decode cX7_clock 13 = .ok (.getfield 12, 3) := by decide +kernel
theorem dX7_clock_16 : decode cX7_clock 16 = .ok (.iload_n 1, 1) := by decide +kernel
theorem dX7_clock_17 : decode cX7_clock 17 = .ok (.iload_n 2, 1) := by decide +kernel
theorem dX7_clock_18 : decode cX7_clock 18 = .ok (.iload_n 3, 1) := by decide +kernel
theorem dX7_clock_19 : decode cX7_clock 19 = .ok (.iload 4, 2) := by decide +kernel
theorem dX7_clock_21 : decode cX7_clock 21 = .ok (.iload 5, 2) := by decide +kernel
theorem dX7_clock_23 : decode cX7_clock 23 = .ok (.invokevirtual 46, 3) := by decide +kernel
theorem dX7_clock_26 : decode cX7_clock 26 = .ok (.invokevirtual 50, 3) := by decide +kernel
theorem dX7_clock_29 : decode cX7_clock 29 = .ok (.ireturn, 1) := by decide +kernel
theorem dX7_wind_0 : decode cX7_wind 0 = .ok (.aload_n 0, 1) := by decide +kernel
theorem dX7_wind_1 : decode cX7_wind 1 = .ok (.getfield 22, 3) := by decide +kernel
theorem dX7_wind_4 : decode cX7_wind 4 = .ok (.aload_n 0, 1) := by decide +kernel
theorem dX7_wind_5 : decode cX7_wind 5 = .ok (.getfield 12, 3) := by decide +kernel
theorem dX7_wind_8 : decode cX7_wind 8 = .ok (.invokevirtual 42, 3) := by decide +kernel
theorem dX7_wind_11 : decode cX7_wind 11 = .ok (.aload_n 0, 1) := by decide +kernel
theorem dX7_wind_12 : decode cX7_wind 12 = .ok (.aload_n 0, 1) := by decide +kernel
theorem dX7_wind_13 : decode cX7_wind 13 = .ok (.getfield 12, 3) := by decide +kernel
theorem dX7_wind_16 : decode cX7_wind 16 = .ok (.iload_n 1, 1) := by decide +kernel
theorem dX7_wind_17 : decode cX7_wind 17 = .ok (.invokevirtual 54, 3) := by decide +kernel
theorem dX7_wind_20 : decode cX7_wind 20 = .ok (.invokevirtual 50, 3) := by decide +kernel
theorem dX7_wind_23 : decode cX7_wind 23 = .ok (.ireturn, 1) := by decide +kernel
theorem dX7_tick_0 : decode cX7_tick 0 = .ok (.aload_n 0, 1) := by decide +kernel
theorem dX7_tick_1 : decode cX7_tick 1 = .ok (.getfield 22, 3) := by decide +kernel
theorem dX7_tick_4 : decode cX7_tick 4 = .ok (.aload_n 0, 1) := by decide +kernel
theorem dX7_tick_5 : decode cX7_tick 5 = .ok (.getfield 12, 3) := by decide +kernel
theorem dX7_tick_8 : decode cX7_tick 8 = .ok (.invokevirtual 42, 3) := by decide +kernel
theorem dX7_tick_11 : decode cX7_tick 11 = .ok (.aload_n 0, 1) := by decide +kernel
theorem dX7_tick_12 : decode cX7_tick 12 = .ok (.aload_n 0, 1) := by decide +kernel
theorem dX7_tick_13 : decode cX7_tick 13 = .ok (.getfield 12, 3) := by decide +kernel
theorem dX7_tick_16 : decode cX7_tick 16 = .ok (.iload_n 1, 1) := by decide +kernel
theorem dX7_tick_17 : decode cX7_tick 17 = .ok (.invokevirtual 57, 3) := by decide +kernel
theorem dX7_tick_20 : decode cX7_tick 20 = .ok (.invokevirtual 50, 3) := by decide +kernel
theorem dX7_tick_23 : decode cX7_tick 23 = .ok (.ireturn, 1) := by decide +kernel
theorem dX7_passenger_0 : decode cX7_passenger 0 = .ok (.aload_n 0, 1) := by decide +kernel
theorem dX7_passenger_1 : decode cX7_passenger 1 = .ok (.getfield 22, 3) := by decide +kernel
theorem dX7_passenger_4 : decode cX7_passenger 4 = .ok (.aload_n 0, 1) := by decide +kernel
theorem dX7_passenger_5 : decode cX7_passenger 5 = .ok (.getfield 12, 3) := by decide +kernel
theorem dX7_passenger_8 : decode cX7_passenger 8 = .ok (.invokevirtual 42, 3) := by decide +kernel
theorem dX7_passenger_11 : decode cX7_passenger 11 = .ok (.aload_n 0, 1) := by decide +kernel
theorem dX7_passenger_12 : decode cX7_passenger 12 = .ok (.aload_n 0, 1) := by decide +kernel
theorem dX7_passenger_13 : decode cX7_passenger 13 = .ok (.getfield 12, 3) := by decide +kernel
theorem dX7_passenger_16 : decode cX7_passenger 16 = .ok (.iload_n 1, 1) := by decide +kernel
theorem dX7_passenger_17 : decode cX7_passenger 17 = .ok (.invokevirtual 60, 3) := by decide +kernel
theorem dX7_passenger_20 : decode cX7_passenger 20 = .ok (.invokevirtual 50, 3) := by decide +kernel
theorem dX7_passenger_23 : decode cX7_passenger 23 = .ok (.ireturn, 1) := by decide +kernel
theorem dX7_group_0 : decode cX7_group 0 = .ok (.aload_n 0, 1) := by decide +kernel
theorem dX7_group_1 : decode cX7_group 1 = .ok (.getfield 22, 3) := by decide +kernel
theorem dX7_group_4 : decode cX7_group 4 = .ok (.aload_n 0, 1) := by decide +kernel
theorem dX7_group_5 : decode cX7_group 5 = .ok (.getfield 12, 3) := by decide +kernel
theorem dX7_group_8 : decode cX7_group 8 = .ok (.invokevirtual 42, 3) := by decide +kernel
theorem dX7_group_11 : decode cX7_group 11 = .ok (.aload_n 0, 1) := by decide +kernel
theorem dX7_group_12 : decode cX7_group 12 = .ok (.aload_n 0, 1) := by decide +kernel
theorem dX7_group_13 : decode cX7_group 13 = .ok (.getfield 12, 3) := by decide +kernel
theorem dX7_group_16 : decode cX7_group 16 = .ok (.iload_n 1, 1) := by decide +kernel
theorem dX7_group_17 : decode cX7_group 17 = .ok (.invokevirtual 63, 3) := by decide +kernel
theorem dX7_group_20 : decode cX7_group 20 = .ok (.invokevirtual 50, 3) := by decide +kernel
theorem dX7_group_23 : decode cX7_group 23 = .ok (.ireturn, 1) := by decide +kernel
theorem dX7_join_0 : decode cX7_join 0 = .ok (.aload_n 0, 1) := by decide +kernel
theorem dX7_join_1 : decode cX7_join 1 = .ok (.getfield 22, 3) := by decide +kernel
theorem dX7_join_4 : decode cX7_join 4 = .ok (.aload_n 0, 1) := by decide +kernel
theorem dX7_join_5 : decode cX7_join 5 = .ok (.getfield 12, 3) := by decide +kernel
theorem dX7_join_8 : decode cX7_join 8 = .ok (.invokevirtual 42, 3) := by decide +kernel
theorem dX7_join_11 : decode cX7_join 11 = .ok (.aload_n 0, 1) := by decide +kernel
theorem dX7_join_12 : decode cX7_join 12 = .ok (.aload_n 0, 1) := by decide +kernel
theorem dX7_join_13 : decode cX7_join 13 = .ok (.getfield 12, 3) := by decide +kernel
theorem dX7_join_16 : decode cX7_join 16 = .ok (.iload_n 1, 1) := by decide +kernel
theorem dX7_join_17 : decode cX7_join 17 = .ok (.iload_n 2, 1) := by decide +kernel
theorem dX7_join_18 : decode cX7_join 18 = .ok (.invokevirtual 66, 3) := by decide +kernel
theorem dX7_join_21 : decode cX7_join 21 = .ok (.invokevirtual 50, 3) := by decide +kernel
theorem dX7_join_24 : decode cX7_join 24 = .ok (.ireturn, 1) := by decide +kernel
theorem dX7_leave_0 : decode cX7_leave 0 = .ok (.aload_n 0, 1) := by decide +kernel
theorem dX7_leave_1 : decode cX7_leave 1 = .ok (.getfield 22, 3) := by decide +kernel
theorem dX7_leave_4 : decode cX7_leave 4 = .ok (.aload_n 0, 1) := by decide +kernel
theorem dX7_leave_5 : decode cX7_leave 5 = .ok (.getfield 12, 3) := by decide +kernel
theorem dX7_leave_8 : decode cX7_leave 8 = .ok (.invokevirtual 42, 3) := by decide +kernel
theorem dX7_leave_11 : decode cX7_leave 11 = .ok (.aload_n 0, 1) := by decide +kernel
theorem dX7_leave_12 : decode cX7_leave 12 = .ok (.aload_n 0, 1) := by decide +kernel
theorem dX7_leave_13 : decode cX7_leave 13 = .ok (.getfield 12, 3) := by decide +kernel
theorem dX7_leave_16 : decode cX7_leave 16 = .ok (.iload_n 1, 1) := by decide +kernel
theorem dX7_leave_17 : decode cX7_leave 17 = .ok (.iload_n 2, 1) := by decide +kernel
theorem dX7_leave_18 : decode cX7_leave 18 = .ok (.invokevirtual 70, 3) := by decide +kernel
theorem dX7_leave_21 : decode cX7_leave 21 = .ok (.invokevirtual 50, 3) := by decide +kernel
theorem dX7_leave_24 : decode cX7_leave 24 = .ok (.ireturn, 1) := by decide +kernel
theorem dX7_clockOf_0 : decode cX7_clockOf 0 = .ok (.aload_n 0, 1) := by decide +kernel
theorem dX7_clockOf_1 : decode cX7_clockOf 1 = .ok (.getfield 12, 3) := by decide +kernel
theorem dX7_clockOf_4 : decode cX7_clockOf 4 = .ok (.iload_n 1, 1) := by decide +kernel
theorem dX7_clockOf_5 : decode cX7_clockOf 5 = .ok (.invokevirtual 73, 3) := by decide +kernel
theorem dX7_clockOf_8 : decode cX7_clockOf 8 = .ok (.astore_n 3, 1) := by decide +kernel
theorem dX7_clockOf_9 : decode cX7_clockOf 9 = .ok (.aload_n 3, 1) := by decide +kernel
theorem dX7_clockOf_10 : decode cX7_clockOf 10 = .ok (.ifnull 13, 3) := by decide +kernel
theorem dX7_clockOf_13 : decode cX7_clockOf 13 = .ok (.iload_n 2, 1) := by decide +kernel
theorem dX7_clockOf_14 : decode cX7_clockOf 14 = .ok (.ifCond .lt 9, 3) := by decide +kernel
theorem dX7_clockOf_17 : decode cX7_clockOf 17 = .ok (.iload_n 2, 1) := by decide +kernel
theorem dX7_clockOf_18 : decode cX7_clockOf 18 = .ok (.bipush 13, 2) := by decide +kernel
theorem dX7_clockOf_20 : decode cX7_clockOf 20 = .ok (.if_icmp .le 6, 3) := by decide +kernel
theorem dX7_clockOf_23 : decode cX7_clockOf 23 = .ok (.ldc 77, 2) := by decide +kernel
theorem dX7_clockOf_25 : decode cX7_clockOf 25 = .ok (.ireturn, 1) := by decide +kernel
theorem dX7_clockOf_26 : decode cX7_clockOf 26 = .ok (.aload_n 3, 1) := by decide +kernel
theorem dX7_clockOf_27 : decode cX7_clockOf 27 = .ok (.iload_n 2, 1) := by decide +kernel
theorem dX7_clockOf_28 : decode cX7_clockOf 28 = .ok (.invokevirtual 78, 3) := by decide +kernel
theorem dX7_clockOf_31 : decode cX7_clockOf 31 = .ok (.ireturn, 1) := by decide +kernel
theorem dX7_mean_0 : decode cX7_mean 0 = .ok (.aload_n 0, 1) := by decide +kernel
theorem dX7_mean_1 : decode cX7_mean 1 = .ok (.getfield 12, 3) := by decide +kernel
theorem dX7_mean_4 : decode cX7_mean 4 = .ok (.iload_n 1, 1) := by decide +kernel
theorem dX7_mean_5 : decode cX7_mean 5 = .ok (.invokevirtual 73, 3) := by decide +kernel
theorem dX7_mean_8 : decode cX7_mean 8 = .ok (.astore_n 3, 1) := by decide +kernel
theorem dX7_mean_9 : decode cX7_mean 9 = .ok (.aload_n 3, 1) := by decide +kernel
theorem dX7_mean_10 : decode cX7_mean 10 = .ok (.ifnull 12, 3) := by decide +kernel
theorem dX7_mean_13 : decode cX7_mean 13 = .ok (.iload_n 2, 1) := by decide +kernel
theorem dX7_mean_14 : decode cX7_mean 14 = .ok (.ifCond .lt 8, 3) := by decide +kernel
theorem dX7_mean_17 : decode cX7_mean 17 = .ok (.iload_n 2, 1) := by decide +kernel
theorem dX7_mean_18 : decode cX7_mean 18 = .ok (.iconst 5, 1) := by decide +kernel
theorem dX7_mean_19 : decode cX7_mean 19 = .ok (.if_icmp .le 7, 3) := by decide +kernel
theorem dX7_mean_22 : decode cX7_mean 22 = .ok (.ldc2_w 83, 3) := by decide +kernel
theorem dX7_mean_25 : decode cX7_mean 25 = .ok (.lreturn, 1) := by decide +kernel
theorem dX7_mean_26 : decode cX7_mean 26 = .ok (.iload_n 2, 1) := by decide +kernel
theorem dX7_mean_27 : decode cX7_mean 27 = .ok (.iconst 3, 1) := by decide +kernel
theorem dX7_mean_28 : decode cX7_mean 28 = .ok (.if_icmp .lt 17, 3) := by decide +kernel
theorem dX7_mean_31 : decode cX7_mean 31 = .ok (.aload_n 3, 1) := by decide +kernel
theorem dX7_mean_32 : decode cX7_mean 32 = .ok (.getfield 85, 3) := by decide +kernel
theorem dX7_mean_35 : decode cX7_mean 35 = .ok (.iload_n 2, 1) := by decide +kernel
theorem dX7_mean_36 : decode cX7_mean 36 = .ok (.iconst 3, 1) := by decide +kernel
theorem dX7_mean_37 : decode cX7_mean 37 = .ok (.isub, 1) := by decide +kernel
theorem dX7_mean_38 : decode cX7_mean 38 = .ok (.invokevirtual 89, 3) := by decide +kernel
theorem dX7_mean_41 : decode cX7_mean 41 = .ok (.invokestatic 95, 3) := by decide +kernel
theorem dX7_mean_44 : decode cX7_mean 44 = .ok (.lreturn, 1) := by decide +kernel
theorem dX7_mean_45 : decode cX7_mean 45 = .ok (.aload_n 3, 1) := by decide +kernel
theorem dX7_mean_46 : decode cX7_mean 46 = .ok (.getfield 99, 3) := by decide +kernel
theorem dX7_mean_49 : decode cX7_mean 49 = .ok (.getfield 102, 3) := by decide +kernel
theorem dX7_mean_52 : decode cX7_mean 52 = .ok (.ifCond .ne 7, 3) := by decide +kernel
theorem dX7_mean_55 : decode cX7_mean 55 = .ok (.ldc2_w 106, 3) := by decide +kernel
theorem dX7_mean_58 : decode cX7_mean 58 = .ok (.lreturn, 1) := by decide +kernel
theorem dX7_mean_59 : decode cX7_mean 59 = .ok (.aload_n 3, 1) := by decide +kernel
theorem dX7_mean_60 : decode cX7_mean 60 = .ok (.getfield 99, 3) := by decide +kernel
theorem dX7_mean_63 : decode cX7_mean 63 = .ok (.iload_n 2, 1) := by decide +kernel
theorem dX7_mean_64 : decode cX7_mean 64 = .ok (.invokevirtual 89, 3) := by decide +kernel
theorem dX7_mean_67 : decode cX7_mean 67 = .ok (.invokestatic 95, 3) := by decide +kernel
theorem dX7_mean_70 : decode cX7_mean 70 = .ok (.lreturn, 1) := by decide +kernel
theorem dX7_groupOf_0 : decode cX7_groupOf 0 = .ok (.aload_n 0, 1) := by decide +kernel
theorem dX7_groupOf_1 : decode cX7_groupOf 1 = .ok (.getfield 12, 3) := by decide +kernel
theorem dX7_groupOf_4 : decode cX7_groupOf 4 = .ok (.iload_n 1, 1) := by decide +kernel
theorem dX7_groupOf_5 : decode cX7_groupOf 5 = .ok (.invokevirtual 108, 3) := by decide +kernel
theorem dX7_groupOf_8 : decode cX7_groupOf 8 = .ok (.astore_n 3, 1) := by decide +kernel
theorem dX7_groupOf_9 : decode cX7_groupOf 9 = .ok (.aload_n 3, 1) := by decide +kernel
theorem dX7_groupOf_10 : decode cX7_groupOf 10 = .ok (.ifnull 12, 3) := by decide +kernel
theorem dX7_groupOf_13 : decode cX7_groupOf 13 = .ok (.iload_n 2, 1) := by decide +kernel
theorem dX7_groupOf_14 : decode cX7_groupOf 14 = .ok (.ifCond .lt 8, 3) := by decide +kernel
theorem dX7_groupOf_17 : decode cX7_groupOf 17 = .ok (.iload_n 2, 1) := by decide +kernel
theorem dX7_groupOf_18 : decode cX7_groupOf 18 = .ok (.iconst 5, 1) := by decide +kernel
theorem dX7_groupOf_19 : decode cX7_groupOf 19 = .ok (.if_icmp .le 6, 3) := by decide +kernel
theorem dX7_groupOf_22 : decode cX7_groupOf 22 = .ok (.ldc 77, 2) := by decide +kernel
theorem dX7_groupOf_24 : decode cX7_groupOf 24 = .ok (.ireturn, 1) := by decide +kernel
theorem dX7_groupOf_25 : decode cX7_groupOf 25 = .ok (.iload_n 2, 1) := by decide +kernel
theorem dX7_groupOf_26 : decode cX7_groupOf 26 = .ok (.tableswitch 66 0 4 #[34, 39, 44, 56, 61], 34) := by decide +kernel
theorem dX7_groupOf_60 : decode cX7_groupOf 60 = .ok (.aload_n 3, 1) := by decide +kernel
theorem dX7_groupOf_61 : decode cX7_groupOf 61 = .ok (.getfield 112, 3) := by decide +kernel
theorem dX7_groupOf_64 : decode cX7_groupOf 64 = .ok (.ireturn, 1) := by decide +kernel
theorem dX7_groupOf_65 : decode cX7_groupOf 65 = .ok (.aload_n 3, 1) := by decide +kernel
theorem dX7_groupOf_66 : decode cX7_groupOf 66 = .ok (.getfield 117, 3) := by decide +kernel
theorem dX7_groupOf_69 : decode cX7_groupOf 69 = .ok (.ireturn, 1) := by decide +kernel
theorem dX7_groupOf_70 : decode cX7_groupOf 70 = .ok (.aload_n 0, 1) := by decide +kernel
theorem dX7_groupOf_71 : decode cX7_groupOf 71 = .ok (.getfield 12, 3) := by decide +kernel
theorem dX7_groupOf_74 : decode cX7_groupOf 74 = .ok (.aload_n 3, 1) := by decide +kernel
theorem dX7_groupOf_75 : decode cX7_groupOf 75 = .ok (.getfield 117, 3) := by decide +kernel
theorem dX7_groupOf_78 : decode cX7_groupOf 78 = .ok (.invokevirtual 120, 3) := by decide +kernel
theorem dX7_groupOf_81 : decode cX7_groupOf 81 = .ok (.ireturn, 1) := by decide +kernel
theorem dX7_groupOf_82 : decode cX7_groupOf 82 = .ok (.aload_n 3, 1) := by decide +kernel
theorem dX7_groupOf_83 : decode cX7_groupOf 83 = .ok (.getfield 123, 3) := by decide +kernel
theorem dX7_groupOf_86 : decode cX7_groupOf 86 = .ok (.ireturn, 1) := by decide +kernel
theorem dX7_groupOf_87 : decode cX7_groupOf 87 = .ok (.aload_n 3, 1) := by decide +kernel
theorem dX7_groupOf_88 : decode cX7_groupOf 88 = .ok (.getfield 125, 3) := by decide +kernel
theorem dX7_groupOf_91 : decode cX7_groupOf 91 = .ok (.ireturn, 1) := by decide +kernel
theorem dX7_groupOf_92 : decode cX7_groupOf 92 = .ok (.aload_n 0, 1) := by decide +kernel
theorem dX7_groupOf_93 : decode cX7_groupOf 93 = .ok (.getfield 12, 3) := by decide +kernel
theorem dX7_groupOf_96 : decode cX7_groupOf 96 = .ok (.aload_n 3, 1) := by decide +kernel
theorem dX7_groupOf_97 : decode cX7_groupOf 97 = .ok (.getfield 117, 3) := by decide +kernel
theorem dX7_groupOf_100 : decode cX7_groupOf 100 = .ok (.bipush 9, 2) := by decide +kernel
theorem dX7_groupOf_102 : decode cX7_groupOf 102 = .ok (.invokevirtual 128, 3) := by decide +kernel
theorem dX7_groupOf_105 : decode cX7_groupOf 105 = .ok (.ireturn, 1) := by decide +kernel
theorem dX7_next_0 : decode cX7_next 0 = .ok (.iload_n 1, 1) := by decide +kernel
theorem dX7_next_1 : decode cX7_next 1 = .ok (.ifCond .ge 6, 3) := by decide +kernel
theorem dX7_next_4 : decode cX7_next 4 = .ok (.ldc 77, 2) := by decide +kernel
theorem dX7_next_6 : decode cX7_next 6 = .ok (.ireturn, 1) := by decide +kernel
theorem dX7_next_7 : decode cX7_next 7 = .ok (.aload_n 0, 1) := by decide +kernel
theorem dX7_next_8 : decode cX7_next 8 = .ok (.getfield 12, 3) := by decide +kernel
theorem dX7_next_11 : decode cX7_next 11 = .ok (.iload_n 1, 1) := by decide +kernel
theorem dX7_next_12 : decode cX7_next 12 = .ok (.invokevirtual 131, 3) := by decide +kernel
theorem dX7_next_15 : decode cX7_next 15 = .ok (.ireturn, 1) := by decide +kernel
theorem dX7_would_0 : decode cX7_would 0 = .ok (.iload_n 2, 1) := by decide +kernel
theorem dX7_would_1 : decode cX7_would 1 = .ok (.iconst 1, 1) := by decide +kernel
theorem dX7_would_2 : decode cX7_would 2 = .ok (.if_icmp .lt 19, 3) := by decide +kernel
theorem dX7_would_5 : decode cX7_would 5 = .ok (.iload_n 2, 1) := by decide +kernel
theorem dX7_would_6 : decode cX7_would 6 = .ok (.sipush 200, 3) := by decide +kernel
theorem dX7_would_9 : decode cX7_would 9 = .ok (.if_icmp .gt 12, 3) := by decide +kernel
theorem dX7_would_12 : decode cX7_would 12 = .ok (.iload_n 3, 1) := by decide +kernel
theorem dX7_would_13 : decode cX7_would 13 = .ok (.ifCond .lt 8, 3) := by decide +kernel
theorem dX7_would_16 : decode cX7_would 16 = .ok (.iload_n 3, 1) := by decide +kernel
theorem dX7_would_17 : decode cX7_would 17 = .ok (.iconst 3, 1) := by decide +kernel
theorem dX7_would_18 : decode cX7_would 18 = .ok (.if_icmp .le 6, 3) := by decide +kernel
theorem dX7_would_21 : decode cX7_would 21 = .ok (.ldc 77, 2) := by decide +kernel
theorem dX7_would_23 : decode cX7_would 23 = .ok (.ireturn, 1) := by decide +kernel
theorem dX7_would_24 : decode cX7_would 24 = .ok (.aload_n 0, 1) := by decide +kernel
theorem dX7_would_25 : decode cX7_would 25 = .ok (.getfield 16, 3) := by decide +kernel
theorem dX7_would_28 : decode cX7_would 28 = .ok (.aload_n 0, 1) := by decide +kernel
theorem dX7_would_29 : decode cX7_would 29 = .ok (.getfield 12, 3) := by decide +kernel
theorem dX7_would_32 : decode cX7_would 32 = .ok (.invokevirtual 134, 3) := by decide +kernel
theorem dX7_would_35 : decode cX7_would 35 = .ok (.aload_n 0, 1) := by decide +kernel
theorem dX7_would_36 : decode cX7_would 36 = .ok (.getfield 16, 3) := by decide +kernel
theorem dX7_would_39 : decode cX7_would 39 = .ok (.iload_n 1, 1) := by decide +kernel
theorem dX7_would_40 : decode cX7_would 40 = .ok (.invokevirtual 73, 3) := by decide +kernel
theorem dX7_would_43 : decode cX7_would 43 = .ok (.astore 4, 2) := by decide +kernel
theorem dX7_would_45 : decode cX7_would 45 = .ok (.aload 4, 2) := by decide +kernel
theorem dX7_would_47 : decode cX7_would 47 = .ok (.ifnonnull 6, 3) := by decide +kernel
theorem dX7_would_50 : decode cX7_would 50 = .ok (.ldc 77, 2) := by decide +kernel
theorem dX7_would_52 : decode cX7_would 52 = .ok (.ireturn, 1) := by decide +kernel
theorem dX7_would_53 : decode cX7_would 53 = .ok (.aload 4, 2) := by decide +kernel
theorem dX7_would_55 : decode cX7_would 55 = .ok (.getfield 99, 3) := by decide +kernel
theorem dX7_would_58 : decode cX7_would 58 = .ok (.getfield 102, 3) := by decide +kernel
theorem dX7_would_61 : decode cX7_would 61 = .ok (.istore 5, 2) := by decide +kernel
theorem dX7_would_63 : decode cX7_would 63 = .ok (.iconst 0, 1) := by decide +kernel
theorem dX7_would_64 : decode cX7_would 64 = .ok (.istore 6, 2) := by decide +kernel
theorem dX7_would_66 : decode cX7_would 66 = .ok (.iload 6, 2) := by decide +kernel
theorem dX7_would_68 : decode cX7_would 68 = .ok (.iload_n 2, 1) := by decide +kernel
theorem dX7_would_69 : decode cX7_would 69 = .ok (.if_icmp .ge 17, 3) := by decide +kernel
theorem dX7_would_72 : decode cX7_would 72 = .ok (.aload_n 0, 1) := by decide +kernel
theorem dX7_would_73 : decode cX7_would 73 = .ok (.getfield 16, 3) := by decide +kernel
theorem dX7_would_76 : decode cX7_would 76 = .ok (.invokevirtual 137, 3) := by decide +kernel
theorem dX7_would_79 : decode cX7_would 79 = .ok (.pop, 1) := by decide +kernel
theorem dX7_would_80 : decode cX7_would 80 = .ok (.iinc 6 1, 3) := by decide +kernel
theorem dX7_would_83 : decode cX7_would 83 = .ok (.goto (-17), 3) := by decide +kernel
theorem dX7_would_86 : decode cX7_would 86 = .ok (.iload_n 3, 1) := by decide +kernel
theorem dX7_would_87 : decode cX7_would 87 = .ok (.tableswitch 49 0 2 #[25, 31, 37], 25) := by decide +kernel
theorem dX7_would_112 : decode cX7_would 112 = .ok (.aload 4, 2) := by decide +kernel
theorem dX7_would_114 : decode cX7_would 114 = .ok (.invokevirtual 141, 3) := by decide +kernel
theorem dX7_would_117 : decode cX7_would 117 = .ok (.ireturn, 1) := by decide +kernel
theorem dX7_would_118 : decode cX7_would 118 = .ok (.aload 4, 2) := by decide +kernel
theorem dX7_would_120 : decode cX7_would 120 = .ok (.getfield 144, 3) := by decide +kernel
theorem dX7_would_123 : decode cX7_would 123 = .ok (.ireturn, 1) := by decide +kernel
theorem dX7_would_124 : decode cX7_would 124 = .ok (.aload 4, 2) := by decide +kernel
theorem dX7_would_126 : decode cX7_would 126 = .ok (.getfield 99, 3) := by decide +kernel
theorem dX7_would_129 : decode cX7_would 129 = .ok (.getfield 102, 3) := by decide +kernel
theorem dX7_would_132 : decode cX7_would 132 = .ok (.iload 5, 2) := by decide +kernel
theorem dX7_would_134 : decode cX7_would 134 = .ok (.isub, 1) := by decide +kernel
theorem dX7_would_135 : decode cX7_would 135 = .ok (.ireturn, 1) := by decide +kernel
theorem dX7_would_136 : decode cX7_would 136 = .ok (.aload 4, 2) := by decide +kernel
theorem dX7_would_138 : decode cX7_would 138 = .ok (.getfield 147, 3) := by decide +kernel
theorem dX7_would_141 : decode cX7_would 141 = .ok (.ireturn, 1) := by decide +kernel
theorem dX7_meets_0 : decode cX7_meets 0 = .ok (.aload_n 0, 1) := by decide +kernel
theorem dX7_meets_1 : decode cX7_meets 1 = .ok (.getfield 16, 3) := by decide +kernel
theorem dX7_meets_4 : decode cX7_meets 4 = .ok (.aload_n 0, 1) := by decide +kernel
theorem dX7_meets_5 : decode cX7_meets 5 = .ok (.getfield 12, 3) := by decide +kernel
theorem dX7_meets_8 : decode cX7_meets 8 = .ok (.invokevirtual 134, 3) := by decide +kernel
theorem dX7_meets_11 : decode cX7_meets 11 = .ok (.aload_n 0, 1) := by decide +kernel
theorem dX7_meets_12 : decode cX7_meets 12 = .ok (.getfield 16, 3) := by decide +kernel
theorem dX7_meets_15 : decode cX7_meets 15 = .ok (.iload_n 1, 1) := by decide +kernel
theorem dX7_meets_16 : decode cX7_meets 16 = .ok (.invokevirtual 108, 3) := by decide +kernel
theorem dX7_meets_19 : decode cX7_meets 19 = .ok (.astore_n 2, 1) := by decide +kernel
theorem dX7_meets_20 : decode cX7_meets 20 = .ok (.aload_n 2, 1) := by decide +kernel
theorem dX7_meets_21 : decode cX7_meets 21 = .ok (.ifnonnull 6, 3) := by decide +kernel
theorem dX7_meets_24 : decode cX7_meets 24 = .ok (.ldc 77, 2) := by decide +kernel
theorem dX7_meets_26 : decode cX7_meets 26 = .ok (.ireturn, 1) := by decide +kernel
theorem dX7_meets_27 : decode cX7_meets 27 = .ok (.aload_n 2, 1) := by decide +kernel
theorem dX7_meets_28 : decode cX7_meets 28 = .ok (.getfield 125, 3) := by decide +kernel
theorem dX7_meets_31 : decode cX7_meets 31 = .ok (.istore_n 3, 1) := by decide +kernel
theorem dX7_meets_32 : decode cX7_meets 32 = .ok (.iconst 1, 1) := by decide +kernel
theorem dX7_meets_33 : decode cX7_meets 33 = .ok (.istore 4, 2) := by decide +kernel
theorem dX7_meets_35 : decode cX7_meets 35 = .ok (.iload 4, 2) := by decide +kernel
theorem dX7_meets_37 : decode cX7_meets 37 = .ok (.sipush 200, 3) := by decide +kernel
theorem dX7_meets_40 : decode cX7_meets 40 = .ok (.if_icmp .gt 28, 3) := by decide +kernel
theorem dX7_meets_43 : decode cX7_meets 43 = .ok (.aload_n 0, 1) := by decide +kernel
theorem dX7_meets_44 : decode cX7_meets 44 = .ok (.getfield 16, 3) := by decide +kernel
theorem dX7_meets_47 : decode cX7_meets 47 = .ok (.invokevirtual 137, 3) := by decide +kernel
theorem dX7_meets_50 : decode cX7_meets 50 = .ok (.pop, 1) := by decide +kernel
theorem dX7_meets_51 : decode cX7_meets 51 = .ok (.aload_n 2, 1) := by decide +kernel
theorem dX7_meets_52 : decode cX7_meets 52 = .ok (.getfield 125, 3) := by decide +kernel
theorem dX7_meets_55 : decode cX7_meets 55 = .ok (.iload_n 3, 1) := by decide +kernel
theorem dX7_meets_56 : decode cX7_meets 56 = .ok (.if_icmp .le 6, 3) := by decide +kernel
theorem dX7_meets_59 : decode cX7_meets 59 = .ok (.iload 4, 2) := by decide +kernel
theorem dX7_meets_61 : decode cX7_meets 61 = .ok (.ireturn, 1) := by decide +kernel
theorem dX7_meets_62 : decode cX7_meets 62 = .ok (.iinc 4 1, 3) := by decide +kernel
theorem dX7_meets_65 : decode cX7_meets 65 = .ok (.goto (-30), 3) := by decide +kernel
theorem dX7_meets_68 : decode cX7_meets 68 = .ok (.ldc 150, 2) := by decide +kernel
theorem dX7_meets_70 : decode cX7_meets 70 = .ok (.ireturn, 1) := by decide +kernel
theorem dX7_longer_0 : decode cX7_longer 0 = .ok (.aload_n 0, 1) := by decide +kernel
theorem dX7_longer_1 : decode cX7_longer 1 = .ok (.getfield 12, 3) := by decide +kernel
theorem dX7_longer_4 : decode cX7_longer 4 = .ok (.bipush 63, 2) := by decide +kernel
theorem dX7_longer_6 : decode cX7_longer 6 = .ok (.bipush 12, 2) := by decide +kernel
theorem dX7_longer_8 : decode cX7_longer 8 = .ok (.invokevirtual 128, 3) := by decide +kernel
theorem dX7_longer_11 : decode cX7_longer 11 = .ok (.i2d, 1) := by decide +kernel
theorem dX7_longer_12 : decode cX7_longer 12 = .ok (.aload_n 0, 1) := by decide +kernel
theorem dX7_longer_13 : decode cX7_longer 13 = .ok (.getfield 12, 3) := by decide +kernel
theorem dX7_longer_16 : decode cX7_longer 16 = .ok (.invokevirtual 151, 3) := by decide +kernel
theorem dX7_longer_19 : decode cX7_longer 19 = .ok (.dsub, 1) := by decide +kernel
theorem dX7_longer_20 : decode cX7_longer 20 = .ok (.invokestatic 95, 3) := by decide +kernel
theorem dX7_longer_23 : decode cX7_longer 23 = .ok (.lreturn, 1) := by decide +kernel
theorem dX7_count_0 : decode cX7_count 0 = .ok (.iload_n 1, 1) := by decide +kernel
theorem dX7_count_1 : decode cX7_count 1 = .ok (.tableswitch 159 0 10 #[59, 67, 75, 83, 91, 103, 115, 127, 135, 143, 151], 59) := by decide +kernel
theorem dX7_count_60 : decode cX7_count 60 = .ok (.aload_n 0, 1) := by decide +kernel
theorem dX7_count_61 : decode cX7_count 61 = .ok (.getfield 12, 3) := by decide +kernel
theorem dX7_count_64 : decode cX7_count 64 = .ok (.getfield 155, 3) := by decide +kernel
theorem dX7_count_67 : decode cX7_count 67 = .ok (.ireturn, 1) := by decide +kernel
theorem dX7_count_68 : decode cX7_count 68 = .ok (.aload_n 0, 1) := by decide +kernel
theorem dX7_count_69 : decode cX7_count 69 = .ok (.getfield 12, 3) := by decide +kernel
theorem dX7_count_72 : decode cX7_count 72 = .ok (.getfield 158, 3) := by decide +kernel
theorem dX7_count_75 : decode cX7_count 75 = .ok (.ireturn, 1) := by decide +kernel
theorem dX7_count_76 : decode cX7_count 76 = .ok (.aload_n 0, 1) := by decide +kernel
theorem dX7_count_77 : decode cX7_count 77 = .ok (.getfield 12, 3) := by decide +kernel
theorem dX7_count_80 : decode cX7_count 80 = .ok (.getfield 161, 3) := by decide +kernel
theorem dX7_count_83 : decode cX7_count 83 = .ok (.ireturn, 1) := by decide +kernel
theorem dX7_count_84 : decode cX7_count 84 = .ok (.aload_n 0, 1) := by decide +kernel
theorem dX7_count_85 : decode cX7_count 85 = .ok (.getfield 12, 3) := by decide +kernel
theorem dX7_count_88 : decode cX7_count 88 = .ok (.getfield 164, 3) := by decide +kernel
theorem dX7_count_91 : decode cX7_count 91 = .ok (.ireturn, 1) := by decide +kernel
theorem dX7_count_92 : decode cX7_count 92 = .ok (.aload_n 0, 1) := by decide +kernel
theorem dX7_count_93 : decode cX7_count 93 = .ok (.getfield 12, 3) := by decide +kernel
theorem dX7_count_96 : decode cX7_count 96 = .ok (.bipush 63, 2) := by decide +kernel
theorem dX7_count_98 : decode cX7_count 98 = .ok (.bipush 8, 2) := by decide +kernel
theorem dX7_count_100 : decode cX7_count 100 = .ok (.invokevirtual 128, 3) := by decide +kernel
theorem dX7_count_103 : decode cX7_count 103 = .ok (.ireturn, 1) := by decide +kernel
theorem dX7_count_104 : decode cX7_count 104 = .ok (.aload_n 0, 1) := by decide +kernel
theorem dX7_count_105 : decode cX7_count 105 = .ok (.getfield 12, 3) := by decide +kernel
theorem dX7_count_108 : decode cX7_count 108 = .ok (.bipush 63, 2) := by decide +kernel
theorem dX7_count_110 : decode cX7_count 110 = .ok (.bipush 11, 2) := by decide +kernel
theorem dX7_count_112 : decode cX7_count 112 = .ok (.invokevirtual 128, 3) := by decide +kernel
theorem dX7_count_115 : decode cX7_count 115 = .ok (.ireturn, 1) := by decide +kernel
theorem dX7_count_116 : decode cX7_count 116 = .ok (.aload_n 0, 1) := by decide +kernel
theorem dX7_count_117 : decode cX7_count 117 = .ok (.getfield 12, 3) := by decide +kernel
theorem dX7_count_120 : decode cX7_count 120 = .ok (.bipush 63, 2) := by decide +kernel
theorem dX7_count_122 : decode cX7_count 122 = .ok (.bipush 12, 2) := by decide +kernel
theorem dX7_count_124 : decode cX7_count 124 = .ok (.invokevirtual 128, 3) := by decide +kernel
theorem dX7_count_127 : decode cX7_count 127 = .ok (.ireturn, 1) := by decide +kernel
theorem dX7_count_128 : decode cX7_count 128 = .ok (.aload_n 0, 1) := by decide +kernel
theorem dX7_count_129 : decode cX7_count 129 = .ok (.getfield 12, 3) := by decide +kernel
theorem dX7_count_132 : decode cX7_count 132 = .ok (.invokevirtual 167, 3) := by decide +kernel
theorem dX7_count_135 : decode cX7_count 135 = .ok (.ireturn, 1) := by decide +kernel
theorem dX7_count_136 : decode cX7_count 136 = .ok (.aload_n 0, 1) := by decide +kernel
theorem dX7_count_137 : decode cX7_count 137 = .ok (.getfield 12, 3) := by decide +kernel
theorem dX7_count_140 : decode cX7_count 140 = .ok (.invokevirtual 170, 3) := by decide +kernel
theorem dX7_count_143 : decode cX7_count 143 = .ok (.ireturn, 1) := by decide +kernel
theorem dX7_count_144 : decode cX7_count 144 = .ok (.aload_n 0, 1) := by decide +kernel
theorem dX7_count_145 : decode cX7_count 145 = .ok (.getfield 22, 3) := by decide +kernel
theorem dX7_count_148 : decode cX7_count 148 = .ok (.getfield 173, 3) := by decide +kernel
theorem dX7_count_151 : decode cX7_count 151 = .ok (.ireturn, 1) := by decide +kernel
theorem dX7_count_152 : decode cX7_count 152 = .ok (.aload_n 0, 1) := by decide +kernel
theorem dX7_count_153 : decode cX7_count 153 = .ok (.getfield 29, 3) := by decide +kernel
theorem dX7_count_156 : decode cX7_count 156 = .ok (.getfield 176, 3) := by decide +kernel
theorem dX7_count_159 : decode cX7_count 159 = .ok (.ireturn, 1) := by decide +kernel
theorem dX7_count_160 : decode cX7_count 160 = .ok (.ldc 77, 2) := by decide +kernel
theorem dX7_count_162 : decode cX7_count 162 = .ok (.ireturn, 1) := by decide +kernel
theorem dX7_undo_0 : decode cX7_undo 0 = .ok (.aload_n 0, 1) := by decide +kernel
theorem dX7_undo_1 : decode cX7_undo 1 = .ok (.getfield 22, 3) := by decide +kernel
theorem dX7_undo_4 : decode cX7_undo 4 = .ok (.aload_n 0, 1) := by decide +kernel
theorem dX7_undo_5 : decode cX7_undo 5 = .ok (.getfield 12, 3) := by decide +kernel
theorem dX7_undo_8 : decode cX7_undo 8 = .ok (.invokevirtual 179, 3) := by decide +kernel
theorem dX7_undo_11 : decode cX7_undo 11 = .ok (.ifCond .ne 6, 3) := by decide +kernel
theorem dX7_undo_14 : decode cX7_undo 14 = .ok (.ldc 183, 2) := by decide +kernel
theorem dX7_undo_16 : decode cX7_undo 16 = .ok (.ireturn, 1) := by decide +kernel
theorem dX7_undo_17 : decode cX7_undo 17 = .ok (.aload_n 0, 1) := by decide +kernel
theorem dX7_undo_18 : decode cX7_undo 18 = .ok (.getfield 22, 3) := by decide +kernel
theorem dX7_undo_21 : decode cX7_undo 21 = .ok (.getfield 173, 3) := by decide +kernel
theorem dX7_undo_24 : decode cX7_undo 24 = .ok (.ireturn, 1) := by decide +kernel
theorem dX7_type_0 : decode cX7_type 0 = .ok (.iload_n 1, 1) := by decide +kernel
theorem dX7_type_1 : decode cX7_type 1 = .ok (.bipush 32, 2) := by decide +kernel
theorem dX7_type_3 : decode cX7_type 3 = .ok (.if_icmp .lt 9, 3) := by decide +kernel
theorem dX7_type_6 : decode cX7_type 6 = .ok (.iload_n 1, 1) := by decide +kernel
theorem dX7_type_7 : decode cX7_type 7 = .ok (.bipush 126, 2) := by decide +kernel
theorem dX7_type_9 : decode cX7_type 9 = .ok (.if_icmp .le 6, 3) := by decide +kernel
theorem dX7_type_12 : decode cX7_type 12 = .ok (.ldc 77, 2) := by decide +kernel
theorem dX7_type_14 : decode cX7_type 14 = .ok (.ireturn, 1) := by decide +kernel
theorem dX7_type_15 : decode cX7_type 15 = .ok (.aload_n 0, 1) := by decide +kernel
theorem dX7_type_16 : decode cX7_type 16 = .ok (.getfield 29, 3) := by decide +kernel
theorem dX7_type_19 : decode cX7_type 19 = .ok (.iload_n 1, 1) := by decide +kernel
theorem dX7_type_20 : decode cX7_type 20 = .ok (.i2c, 1) := by decide +kernel
theorem dX7_type_21 : decode cX7_type 21 = .ok (.invokevirtual 184, 3) := by decide +kernel
theorem dX7_type_24 : decode cX7_type 24 = .ok (.ifCond .ne 6, 3) := by decide +kernel
theorem dX7_type_27 : decode cX7_type 27 = .ok (.ldc 188, 2) := by decide +kernel
theorem dX7_type_29 : decode cX7_type 29 = .ok (.ireturn, 1) := by decide +kernel
theorem dX7_type_30 : decode cX7_type 30 = .ok (.aload_n 0, 1) := by decide +kernel
theorem dX7_type_31 : decode cX7_type 31 = .ok (.getfield 29, 3) := by decide +kernel
theorem dX7_type_34 : decode cX7_type 34 = .ok (.getfield 176, 3) := by decide +kernel
theorem dX7_type_37 : decode cX7_type 37 = .ok (.ireturn, 1) := by decide +kernel
theorem dX7_clearText_0 : decode cX7_clearText 0 = .ok (.aload_n 0, 1) := by decide +kernel
theorem dX7_clearText_1 : decode cX7_clearText 1 = .ok (.getfield 29, 3) := by decide +kernel
theorem dX7_clearText_4 : decode cX7_clearText 4 = .ok (.getfield 176, 3) := by decide +kernel
theorem dX7_clearText_7 : decode cX7_clearText 7 = .ok (.istore_n 1, 1) := by decide +kernel
theorem dX7_clearText_8 : decode cX7_clearText 8 = .ok (.aload_n 0, 1) := by decide +kernel
theorem dX7_clearText_9 : decode cX7_clearText 9 = .ok (.getfield 29, 3) := by decide +kernel
theorem dX7_clearText_12 : decode cX7_clearText 12 = .ok (.iconst 0, 1) := by decide +kernel
theorem dX7_clearText_13 : decode cX7_clearText 13 = .ok (.putfield 176, 3) := by decide +kernel
theorem dX7_clearText_16 : decode cX7_clearText 16 = .ok (.iload_n 1, 1) := by decide +kernel
theorem dX7_clearText_17 : decode cX7_clearText 17 = .ok (.ireturn, 1) := by decide +kernel
theorem dX7_fault_0 : decode cX7_fault 0 = .ok (.iload_n 1, 1) := by decide +kernel
theorem dX7_fault_1 : decode cX7_fault 1 = .ok (.ifCond .lt 8, 3) := by decide +kernel
theorem dX7_fault_4 : decode cX7_fault 4 = .ok (.iload_n 1, 1) := by decide +kernel
theorem dX7_fault_5 : decode cX7_fault 5 = .ok (.iconst 2, 1) := by decide +kernel
theorem dX7_fault_6 : decode cX7_fault 6 = .ok (.if_icmp .le 6, 3) := by decide +kernel
theorem dX7_fault_9 : decode cX7_fault 9 = .ok (.ldc 77, 2) := by decide +kernel
theorem dX7_fault_11 : decode cX7_fault 11 = .ok (.ireturn, 1) := by decide +kernel
theorem dX7_fault_12 : decode cX7_fault 12 = .ok (.aload_n 0, 1) := by decide +kernel
theorem dX7_fault_13 : decode cX7_fault 13 = .ok (.getfield 38, 3) := by decide +kernel
theorem dX7_fault_16 : decode cX7_fault 16 = .ok (.aload_n 0, 1) := by decide +kernel
theorem dX7_fault_17 : decode cX7_fault 17 = .ok (.getfield 12, 3) := by decide +kernel
theorem dX7_fault_20 : decode cX7_fault 20 = .ok (.aload_n 0, 1) := by decide +kernel
theorem dX7_fault_21 : decode cX7_fault 21 = .ok (.getfield 16, 3) := by decide +kernel
theorem dX7_fault_24 : decode cX7_fault 24 = .ok (.invokevirtual 189, 3) := by decide +kernel
theorem dX7_fault_27 : decode cX7_fault 27 = .ok (.aload_n 0, 1) := by decide +kernel
theorem dX7_fault_28 : decode cX7_fault 28 = .ok (.getfield 38, 3) := by decide +kernel
theorem dX7_fault_31 : decode cX7_fault 31 = .ok (.getfield 193, 3) := by decide +kernel
theorem dX7_fault_34 : decode cX7_fault 34 = .ok (.ifCond .ne 6, 3) := by decide +kernel
theorem dX7_fault_37 : decode cX7_fault 37 = .ok (.ldc 150, 2) := by decide +kernel
theorem dX7_fault_39 : decode cX7_fault 39 = .ok (.ireturn, 1) := by decide +kernel
theorem dX7_fault_40 : decode cX7_fault 40 = .ok (.iload_n 1, 1) := by decide +kernel
theorem dX7_fault_41 : decode cX7_fault 41 = .ok (.ifCond .ne 11, 3) := by decide +kernel
theorem dX7_fault_44 : decode cX7_fault 44 = .ok (.aload_n 0, 1) := by decide +kernel
theorem dX7_fault_45 : decode cX7_fault 45 = .ok (.getfield 38, 3) := by decide +kernel
theorem dX7_fault_48 : decode cX7_fault 48 = .ok (.getfield 196, 3) := by decide +kernel
theorem dX7_fault_51 : decode cX7_fault 51 = .ok (.ireturn, 1) := by decide +kernel
theorem dX7_fault_52 : decode cX7_fault 52 = .ok (.iload_n 1, 1) := by decide +kernel
theorem dX7_fault_53 : decode cX7_fault 53 = .ok (.iconst 1, 1) := by decide +kernel
theorem dX7_fault_54 : decode cX7_fault 54 = .ok (.if_icmp .ne 13, 3) := by decide +kernel
theorem dX7_fault_57 : decode cX7_fault 57 = .ok (.aload_n 0, 1) := by decide +kernel
theorem dX7_fault_58 : decode cX7_fault 58 = .ok (.getfield 38, 3) := by decide +kernel
theorem dX7_fault_61 : decode cX7_fault 61 = .ok (.getfield 193, 3) := by decide +kernel
theorem dX7_fault_64 : decode cX7_fault 64 = .ok (.goto 10, 3) := by decide +kernel
theorem dX7_fault_67 : decode cX7_fault 67 = .ok (.aload_n 0, 1) := by decide +kernel
theorem dX7_fault_68 : decode cX7_fault 68 = .ok (.getfield 38, 3) := by decide +kernel
theorem dX7_fault_71 : decode cX7_fault 71 = .ok (.getfield 199, 3) := by decide +kernel
theorem dX7_fault_74 : decode cX7_fault 74 = .ok (.ireturn, 1) := by decide +kernel
theorem dX7_play_0 : decode cX7_play 0 = .ok (.aload_n 0, 1) := by decide +kernel
theorem dX7_play_1 : decode cX7_play 1 = .ok (.getfield 38, 3) := by decide +kernel
theorem dX7_play_4 : decode cX7_play 4 = .ok (.aload_n 0, 1) := by decide +kernel
theorem dX7_play_5 : decode cX7_play 5 = .ok (.getfield 12, 3) := by decide +kernel
theorem dX7_play_8 : decode cX7_play 8 = .ok (.aload_n 0, 1) := by decide +kernel
theorem dX7_play_9 : decode cX7_play 9 = .ok (.getfield 16, 3) := by decide +kernel
theorem dX7_play_12 : decode cX7_play 12 = .ok (.invokevirtual 189, 3) := by decide +kernel
theorem dX7_play_15 : decode cX7_play 15 = .ok (.aload_n 0, 1) := by decide +kernel
theorem dX7_play_16 : decode cX7_play 16 = .ok (.getfield 38, 3) := by decide +kernel
theorem dX7_play_19 : decode cX7_play 19 = .ok (.getfield 193, 3) := by decide +kernel
theorem dX7_play_22 : decode cX7_play 22 = .ok (.ifCond .eq 6, 3) := by decide +kernel
theorem dX7_play_25 : decode cX7_play 25 = .ok (.ldc 183, 2) := by decide +kernel
theorem dX7_play_27 : decode cX7_play 27 = .ok (.ireturn, 1) := by decide +kernel
theorem dX7_play_28 : decode cX7_play 28 = .ok (.aload_n 0, 1) := by decide +kernel
theorem dX7_play_29 : decode cX7_play 29 = .ok (.getfield 22, 3) := by decide +kernel
theorem dX7_play_32 : decode cX7_play 32 = .ok (.aload_n 0, 1) := by decide +kernel
theorem dX7_play_33 : decode cX7_play 33 = .ok (.getfield 12, 3) := by decide +kernel
theorem dX7_play_36 : decode cX7_play 36 = .ok (.invokevirtual 42, 3) := by decide +kernel
theorem dX7_play_39 : decode cX7_play 39 = .ok (.aload_n 0, 1) := by decide +kernel
theorem dX7_play_40 : decode cX7_play 40 = .ok (.getfield 12, 3) := by decide +kernel
theorem dX7_play_43 : decode cX7_play 43 = .ok (.aload_n 0, 1) := by decide +kernel
theorem dX7_play_44 : decode cX7_play 44 = .ok (.getfield 16, 3) := by decide +kernel
theorem dX7_play_47 : decode cX7_play 47 = .ok (.invokevirtual 134, 3) := by decide +kernel
theorem dX7_play_50 : decode cX7_play 50 = .ok (.aload_n 0, 1) := by decide +kernel
theorem dX7_play_51 : decode cX7_play 51 = .ok (.aload_n 0, 1) := by decide +kernel
theorem dX7_play_52 : decode cX7_play 52 = .ok (.getfield 38, 3) := by decide +kernel
theorem dX7_play_55 : decode cX7_play 55 = .ok (.getfield 202, 3) := by decide +kernel
theorem dX7_play_58 : decode cX7_play 58 = .ok (.invokevirtual 50, 3) := by decide +kernel
theorem dX7_play_61 : decode cX7_play 61 = .ok (.ireturn, 1) := by decide +kernel
theorem dX7_settle_0 : decode cX7_settle 0 = .ok (.iload_n 1, 1) := by decide +kernel
theorem dX7_settle_1 : decode cX7_settle 1 = .ok (.ifCond .lt 10, 3) := by decide +kernel
theorem dX7_settle_4 : decode cX7_settle 4 = .ok (.aload_n 0, 1) := by decide +kernel
theorem dX7_settle_5 : decode cX7_settle 5 = .ok (.getfield 22, 3) := by decide +kernel
theorem dX7_settle_8 : decode cX7_settle 8 = .ok (.invokevirtual 203, 3) := by decide +kernel
theorem dX7_settle_11 : decode cX7_settle 11 = .ok (.iload_n 1, 1) := by decide +kernel
theorem dX7_settle_12 : decode cX7_settle 12 = .ok (.ireturn, 1) := by decide +kernel
theorem dX7_bitsOf_0 : decode cX7_bitsOf 0 = .ok (.dload_n 0, 1) := by decide +kernel
theorem dX7_bitsOf_1 : decode cX7_bitsOf 1 = .ok (.dconst 0, 1) := by decide +kernel
theorem dX7_bitsOf_2 : decode cX7_bitsOf 2 = .ok (.dcmp .l, 1) := by decide +kernel
theorem dX7_bitsOf_3 : decode cX7_bitsOf 3 = .ok (.ifCond .ne 5, 3) := by decide +kernel
theorem dX7_bitsOf_6 : decode cX7_bitsOf 6 = .ok (.lconst 0, 1) := by decide +kernel
theorem dX7_bitsOf_7 : decode cX7_bitsOf 7 = .ok (.lreturn, 1) := by decide +kernel
theorem dX7_bitsOf_8 : decode cX7_bitsOf 8 = .ok (.dload_n 0, 1) := by decide +kernel
theorem dX7_bitsOf_9 : decode cX7_bitsOf 9 = .ok (.dconst 0, 1) := by decide +kernel
theorem dX7_bitsOf_10 : decode cX7_bitsOf 10 = .ok (.dcmp .g, 1) := by decide +kernel
theorem dX7_bitsOf_11 : decode cX7_bitsOf 11 = .ok (.ifCond .ge 8, 3) := by decide +kernel
theorem dX7_bitsOf_14 : decode cX7_bitsOf 14 = .ok (.dload_n 0, 1) := by decide +kernel
theorem dX7_bitsOf_15 : decode cX7_bitsOf 15 = .ok (.dneg, 1) := by decide +kernel
theorem dX7_bitsOf_16 : decode cX7_bitsOf 16 = .ok (.goto 4, 3) := by decide +kernel
theorem dX7_bitsOf_19 : decode cX7_bitsOf 19 = .ok (.dload_n 0, 1) := by decide +kernel
theorem dX7_bitsOf_20 : decode cX7_bitsOf 20 = .ok (.dstore_n 2, 1) := by decide +kernel
theorem dX7_bitsOf_21 : decode cX7_bitsOf 21 = .ok (.sipush 1023, 3) := by decide +kernel
theorem dX7_bitsOf_24 : decode cX7_bitsOf 24 = .ok (.istore 4, 2) := by decide +kernel
theorem dX7_bitsOf_26 : decode cX7_bitsOf 26 = .ok (.iconst 0, 1) := by decide +kernel
theorem dX7_bitsOf_27 : decode cX7_bitsOf 27 = .ok (.istore 5, 2) := by decide +kernel
theorem dX7_bitsOf_29 : decode cX7_bitsOf 29 = .ok (.iload 5, 2) := by decide +kernel
theorem dX7_bitsOf_31 : decode cX7_bitsOf 31 = .ok (.sipush 1100, 3) := by decide +kernel
theorem dX7_bitsOf_34 : decode cX7_bitsOf 34 = .ok (.if_icmp .ge 26, 3) := by decide +kernel
theorem dX7_bitsOf_37 : decode cX7_bitsOf 37 = .ok (.dload_n 2, 1) := by decide +kernel
theorem dX7_bitsOf_38 : decode cX7_bitsOf 38 = .ok (.ldc2_w 206, 3) := by decide +kernel
theorem dX7_bitsOf_41 : decode cX7_bitsOf 41 = .ok (.dcmp .l, 1) := by decide +kernel
theorem dX7_bitsOf_42 : decode cX7_bitsOf 42 = .ok (.ifCond .lt 18, 3) := by decide +kernel
theorem dX7_bitsOf_45 : decode cX7_bitsOf 45 = .ok (.dload_n 2, 1) := by decide +kernel
theorem dX7_bitsOf_46 : decode cX7_bitsOf 46 = .ok (.ldc2_w 206, 3) := by decide +kernel
theorem dX7_bitsOf_49 : decode cX7_bitsOf 49 = .ok (.ddiv, 1) := by decide +kernel
theorem dX7_bitsOf_50 : decode cX7_bitsOf 50 = .ok (.dstore_n 2, 1) := by decide +kernel
theorem dX7_bitsOf_51 : decode cX7_bitsOf 51 = .ok (.iinc 4 1, 3) := by decide +kernel
theorem dX7_bitsOf_54 : decode cX7_bitsOf 54 = .ok (.iinc 5 1, 3) := by decide +kernel
theorem dX7_bitsOf_57 : decode cX7_bitsOf 57 = .ok (.goto (-28), 3) := by decide +kernel
theorem dX7_bitsOf_60 : decode cX7_bitsOf 60 = .ok (.iconst 0, 1) := by decide +kernel
theorem dX7_bitsOf_61 : decode cX7_bitsOf 61 = .ok (.istore 5, 2) := by decide +kernel
theorem dX7_bitsOf_63 : decode cX7_bitsOf 63 = .ok (.iload 5, 2) := by decide +kernel
theorem dX7_bitsOf_65 : decode cX7_bitsOf 65 = .ok (.sipush 1100, 3) := by decide +kernel
theorem dX7_bitsOf_68 : decode cX7_bitsOf 68 = .ok (.if_icmp .ge 24, 3) := by decide +kernel
theorem dX7_bitsOf_71 : decode cX7_bitsOf 71 = .ok (.dload_n 2, 1) := by decide +kernel
theorem dX7_bitsOf_72 : decode cX7_bitsOf 72 = .ok (.dconst 1, 1) := by decide +kernel
theorem dX7_bitsOf_73 : decode cX7_bitsOf 73 = .ok (.dcmp .g, 1) := by decide +kernel
theorem dX7_bitsOf_74 : decode cX7_bitsOf 74 = .ok (.ifCond .ge 18, 3) := by decide +kernel
theorem dX7_bitsOf_77 : decode cX7_bitsOf 77 = .ok (.dload_n 2, 1) := by decide +kernel
theorem dX7_bitsOf_78 : decode cX7_bitsOf 78 = .ok (.ldc2_w 206, 3) := by decide +kernel
theorem dX7_bitsOf_81 : decode cX7_bitsOf 81 = .ok (.dmul, 1) := by decide +kernel
theorem dX7_bitsOf_82 : decode cX7_bitsOf 82 = .ok (.dstore_n 2, 1) := by decide +kernel
theorem dX7_bitsOf_83 : decode cX7_bitsOf 83 = .ok (.iinc 4 (-1), 3) := by decide +kernel
theorem dX7_bitsOf_86 : decode cX7_bitsOf 86 = .ok (.iinc 5 1, 3) := by decide +kernel
theorem dX7_bitsOf_89 : decode cX7_bitsOf 89 = .ok (.goto (-26), 3) := by decide +kernel
theorem dX7_bitsOf_92 : decode cX7_bitsOf 92 = .ok (.dload_n 2, 1) := by decide +kernel
theorem dX7_bitsOf_93 : decode cX7_bitsOf 93 = .ok (.dconst 1, 1) := by decide +kernel
theorem dX7_bitsOf_94 : decode cX7_bitsOf 94 = .ok (.dsub, 1) := by decide +kernel
theorem dX7_bitsOf_95 : decode cX7_bitsOf 95 = .ok (.ldc2_w 208, 3) := by decide +kernel
theorem dX7_bitsOf_98 : decode cX7_bitsOf 98 = .ok (.dmul, 1) := by decide +kernel
theorem dX7_bitsOf_99 : decode cX7_bitsOf 99 = .ok (.d2l, 1) := by decide +kernel
theorem dX7_bitsOf_100 : decode cX7_bitsOf 100 = .ok (.lstore 5, 2) := by decide +kernel
theorem dX7_bitsOf_102 : decode cX7_bitsOf 102 = .ok (.iload 4, 2) := by decide +kernel
theorem dX7_bitsOf_104 : decode cX7_bitsOf 104 = .ok (.i2l, 1) := by decide +kernel
theorem dX7_bitsOf_105 : decode cX7_bitsOf 105 = .ok (.bipush 52, 2) := by decide +kernel
theorem dX7_bitsOf_107 : decode cX7_bitsOf 107 = .ok (.lshl, 1) := by decide +kernel
theorem dX7_bitsOf_108 : decode cX7_bitsOf 108 = .ok (.lload 5, 2) := by decide +kernel
theorem dX7_bitsOf_110 : decode cX7_bitsOf 110 = .ok (.lor, 1) := by decide +kernel
theorem dX7_bitsOf_111 : decode cX7_bitsOf 111 = .ok (.lstore 7, 2) := by decide +kernel
theorem dX7_bitsOf_113 : decode cX7_bitsOf 113 = .ok (.dload_n 0, 1) := by decide +kernel
theorem dX7_bitsOf_114 : decode cX7_bitsOf 114 = .ok (.dconst 0, 1) := by decide +kernel
theorem dX7_bitsOf_115 : decode cX7_bitsOf 115 = .ok (.dcmp .g, 1) := by decide +kernel
theorem dX7_bitsOf_116 : decode cX7_bitsOf 116 = .ok (.ifCond .ge 12, 3) := by decide +kernel
theorem dX7_bitsOf_119 : decode cX7_bitsOf 119 = .ok (.lload 7, 2) := by decide +kernel
theorem dX7_bitsOf_121 : decode cX7_bitsOf 121 = .ok (.ldc2_w 210, 3) := by decide +kernel
theorem dX7_bitsOf_124 : decode cX7_bitsOf 124 = .ok (.lor, 1) := by decide +kernel
theorem dX7_bitsOf_125 : decode cX7_bitsOf 125 = .ok (.goto 5, 3) := by decide +kernel
theorem dX7_bitsOf_128 : decode cX7_bitsOf 128 = .ok (.lload 7, 2) := by decide +kernel
theorem dX7_bitsOf_130 : decode cX7_bitsOf 130 = .ok (.lreturn, 1) := by decide +kernel
theorem dX7_isLaw_0 : decode cX7_isLaw 0 = .ok (.iload_n 0, 1) := by decide +kernel
theorem dX7_isLaw_1 : decode cX7_isLaw 1 = .ok (.ifCond .lt 12, 3) := by decide +kernel
theorem dX7_isLaw_4 : decode cX7_isLaw 4 = .ok (.iload_n 0, 1) := by decide +kernel
theorem dX7_isLaw_5 : decode cX7_isLaw 5 = .ok (.iconst 2, 1) := by decide +kernel
theorem dX7_isLaw_6 : decode cX7_isLaw 6 = .ok (.if_icmp .gt 7, 3) := by decide +kernel
theorem dX7_isLaw_9 : decode cX7_isLaw 9 = .ok (.iconst 1, 1) := by decide +kernel
theorem dX7_isLaw_10 : decode cX7_isLaw 10 = .ok (.goto 4, 3) := by decide +kernel
theorem dX7_isLaw_13 : decode cX7_isLaw 13 = .ok (.iconst 0, 1) := by decide +kernel
theorem dX7_isLaw_14 : decode cX7_isLaw 14 = .ok (.ireturn, 1) := by decide +kernel
theorem dX7_isGap_0 : decode cX7_isGap 0 = .ok (.iload_n 0, 1) := by decide +kernel
theorem dX7_isGap_1 : decode cX7_isGap 1 = .ok (.iconst 1, 1) := by decide +kernel
theorem dX7_isGap_2 : decode cX7_isGap 2 = .ok (.if_icmp .lt 13, 3) := by decide +kernel
theorem dX7_isGap_5 : decode cX7_isGap 5 = .ok (.iload_n 0, 1) := by decide +kernel
theorem dX7_isGap_6 : decode cX7_isGap 6 = .ok (.bipush 50, 2) := by decide +kernel
theorem dX7_isGap_8 : decode cX7_isGap 8 = .ok (.if_icmp .gt 7, 3) := by decide +kernel
theorem dX7_isGap_11 : decode cX7_isGap 11 = .ok (.iconst 1, 1) := by decide +kernel
theorem dX7_isGap_12 : decode cX7_isGap 12 = .ok (.goto 4, 3) := by decide +kernel
theorem dX7_isGap_15 : decode cX7_isGap 15 = .ok (.iconst 0, 1) := by decide +kernel
theorem dX7_isGap_16 : decode cX7_isGap 16 = .ok (.ireturn, 1) := by decide +kernel
theorem dX7_isClock_0 : decode cX7_isClock 0 = .ok (.iload_n 0, 1) := by decide +kernel
theorem dX7_isClock_1 : decode cX7_isClock 1 = .ok (.invokestatic 212, 3) := by decide +kernel
theorem dX7_isClock_4 : decode cX7_isClock 4 = .ok (.ifCond .eq 10, 3) := by decide +kernel
theorem dX7_isClock_7 : decode cX7_isClock 7 = .ok (.iload_n 1, 1) := by decide +kernel
theorem dX7_isClock_8 : decode cX7_isClock 8 = .ok (.invokestatic 216, 3) := by decide +kernel
theorem dX7_isClock_11 : decode cX7_isClock 11 = .ok (.ifCond .ne 5, 3) := by decide +kernel
theorem dX7_isClock_14 : decode cX7_isClock 14 = .ok (.iconst 0, 1) := by decide +kernel
theorem dX7_isClock_15 : decode cX7_isClock 15 = .ok (.ireturn, 1) := by decide +kernel
theorem dX7_isClock_16 : decode cX7_isClock 16 = .ok (.iload_n 0, 1) := by decide +kernel
theorem dX7_isClock_17 : decode cX7_isClock 17 = .ok (.iconst 2, 1) := by decide +kernel
theorem dX7_isClock_18 : decode cX7_isClock 18 = .ok (.if_icmp .ne 28, 3) := by decide +kernel
theorem dX7_isClock_21 : decode cX7_isClock 21 = .ok (.iload_n 2, 1) := by decide +kernel
theorem dX7_isClock_22 : decode cX7_isClock 22 = .ok (.invokestatic 216, 3) := by decide +kernel
theorem dX7_isClock_25 : decode cX7_isClock 25 = .ok (.ifCond .eq 19, 3) := by decide +kernel
theorem dX7_isClock_28 : decode cX7_isClock 28 = .ok (.iload_n 3, 1) := by decide +kernel
theorem dX7_isClock_29 : decode cX7_isClock 29 = .ok (.invokestatic 216, 3) := by decide +kernel
theorem dX7_isClock_32 : decode cX7_isClock 32 = .ok (.ifCond .eq 12, 3) := by decide +kernel
theorem dX7_isClock_35 : decode cX7_isClock 35 = .ok (.iload 4, 2) := by decide +kernel
theorem dX7_isClock_37 : decode cX7_isClock 37 = .ok (.ifCond .ne 7, 3) := by decide +kernel
theorem dX7_isClock_40 : decode cX7_isClock 40 = .ok (.iconst 1, 1) := by decide +kernel
theorem dX7_isClock_41 : decode cX7_isClock 41 = .ok (.goto 4, 3) := by decide +kernel
theorem dX7_isClock_44 : decode cX7_isClock 44 = .ok (.iconst 0, 1) := by decide +kernel
theorem dX7_isClock_45 : decode cX7_isClock 45 = .ok (.ireturn, 1) := by decide +kernel
theorem dX7_isClock_46 : decode cX7_isClock 46 = .ok (.iload_n 1, 1) := by decide +kernel
theorem dX7_isClock_47 : decode cX7_isClock 47 = .ok (.iload_n 2, 1) := by decide +kernel
theorem dX7_isClock_48 : decode cX7_isClock 48 = .ok (.invokestatic 219, 3) := by decide +kernel
theorem dX7_isClock_51 : decode cX7_isClock 51 = .ok (.ifCond .eq 24, 3) := by decide +kernel
theorem dX7_isClock_54 : decode cX7_isClock 54 = .ok (.iload_n 2, 1) := by decide +kernel
theorem dX7_isClock_55 : decode cX7_isClock 55 = .ok (.iload_n 3, 1) := by decide +kernel
theorem dX7_isClock_56 : decode cX7_isClock 56 = .ok (.invokestatic 219, 3) := by decide +kernel
theorem dX7_isClock_59 : decode cX7_isClock 59 = .ok (.ifCond .eq 16, 3) := by decide +kernel
theorem dX7_isClock_62 : decode cX7_isClock 62 = .ok (.iload_n 3, 1) := by decide +kernel
theorem dX7_isClock_63 : decode cX7_isClock 63 = .ok (.iload 4, 2) := by decide +kernel
theorem dX7_isClock_65 : decode cX7_isClock 65 = .ok (.invokestatic 219, 3) := by decide +kernel
theorem dX7_isClock_68 : decode cX7_isClock 68 = .ok (.ifCond .eq 7, 3) := by decide +kernel
theorem dX7_isClock_71 : decode cX7_isClock 71 = .ok (.iconst 1, 1) := by decide +kernel
theorem dX7_isClock_72 : decode cX7_isClock 72 = .ok (.goto 4, 3) := by decide +kernel
theorem dX7_isClock_75 : decode cX7_isClock 75 = .ok (.iconst 0, 1) := by decide +kernel
theorem dX7_isClock_76 : decode cX7_isClock 76 = .ok (.ireturn, 1) := by decide +kernel
theorem dX7_mayFollow_0 : decode cX7_mayFollow 0 = .ok (.iload_n 1, 1) := by decide +kernel
theorem dX7_mayFollow_1 : decode cX7_mayFollow 1 = .ok (.ifCond .eq 14, 3) := by decide +kernel
theorem dX7_mayFollow_4 : decode cX7_mayFollow 4 = .ok (.iload_n 0, 1) := by decide +kernel
theorem dX7_mayFollow_5 : decode cX7_mayFollow 5 = .ok (.ifCond .eq 14, 3) := by decide +kernel
theorem dX7_mayFollow_8 : decode cX7_mayFollow 8 = .ok (.iload_n 1, 1) := by decide +kernel
theorem dX7_mayFollow_9 : decode cX7_mayFollow 9 = .ok (.invokestatic 216, 3) := by decide +kernel
theorem dX7_mayFollow_12 : decode cX7_mayFollow 12 = .ok (.ifCond .eq 7, 3) := by decide +kernel
theorem dX7_mayFollow_15 : decode cX7_mayFollow 15 = .ok (.iconst 1, 1) := by decide +kernel
theorem dX7_mayFollow_16 : decode cX7_mayFollow 16 = .ok (.goto 4, 3) := by decide +kernel
theorem dX7_mayFollow_19 : decode cX7_mayFollow 19 = .ok (.iconst 0, 1) := by decide +kernel
theorem dX7_mayFollow_20 : decode cX7_mayFollow 20 = .ok (.ireturn, 1) := by decide +kernel
theorem dX8_init_0 : decode cX8_init 0 = .ok (.aload_n 0, 1) := by decide +kernel
theorem dX8_init_1 : decode cX8_init 1 = .ok (.invokespecial 1, 3) := by decide +kernel
theorem dX8_init_4 : decode cX8_init 4 = .ok (.aload_n 0, 1) := by decide +kernel
theorem dX8_init_5 : decode cX8_init 5 = .ok (.bipush 110, 2) := by decide +kernel
theorem dX8_init_7 : decode cX8_init 7 = .ok (.newarray .int, 2) := by decide +kernel
theorem dX8_init_9 : decode cX8_init 9 = .ok (.putfield 7, 3) := by decide +kernel
theorem dX8_init_12 : decode cX8_init 12 = .ok (.aload_n 0, 1) := by decide +kernel
theorem dX8_init_13 : decode cX8_init 13 = .ok (.sipush 440, 3) := by decide +kernel
theorem dX8_init_16 : decode cX8_init 16 = .ok (.newarray .int, 2) := by decide +kernel
theorem dX8_init_18 : decode cX8_init 18 = .ok (.putfield 13, 3) := by decide +kernel
theorem dX8_init_21 : decode cX8_init 21 = .ok (.aload_n 0, 1) := by decide +kernel
theorem dX8_init_22 : decode cX8_init 22 = .ok (.bipush 110, 2) := by decide +kernel
theorem dX8_init_24 : decode cX8_init 24 = .ok (.newarray .int, 2) := by decide +kernel
theorem dX8_init_26 : decode cX8_init 26 = .ok (.putfield 16, 3) := by decide +kernel
theorem dX8_init_29 : decode cX8_init 29 = .ok (.aload_n 0, 1) := by decide +kernel
theorem dX8_init_30 : decode cX8_init 30 = .ok (.bipush 110, 2) := by decide +kernel
theorem dX8_init_32 : decode cX8_init 32 = .ok (.newarray .int, 2) := by decide +kernel
theorem dX8_init_34 : decode cX8_init 34 = .ok (.putfield 19, 3) := by decide +kernel
theorem dX8_init_37 : decode cX8_init 37 = .ok (.aload_n 0, 1) := by decide +kernel
theorem dX8_init_38 : decode cX8_init 38 = .ok (.bipush 60, 2) := by decide +kernel
theorem dX8_init_40 : decode cX8_init 40 = .ok (.newarray .int, 2) := by decide +kernel
theorem dX8_init_42 : decode cX8_init 42 = .ok (.putfield 22, 3) := by decide +kernel
theorem dX8_init_45 : decode cX8_init 45 = .ok (.aload_n 0, 1) := by decide +kernel
theorem dX8_init_46 : decode cX8_init 46 = .ok (.iconst 5, 1) := by decide +kernel
theorem dX8_init_47 : decode cX8_init 47 = .ok (.newarray .int, 2) := by decide +kernel
theorem dX8_init_49 : decode cX8_init 49 = .ok (.putfield 25, 3) := by decide +kernel
theorem dX8_init_52 : decode cX8_init 52 = .ok (.aload_n 0, 1) := by decide +kernel
theorem dX8_init_53 : decode cX8_init 53 = .ok (.getfield 7, 3) := by decide +kernel
theorem dX8_init_56 : decode cX8_init 56 = .ok (.iconst 3, 1) := by decide +kernel
theorem dX8_init_57 : decode cX8_init 57 = .ok (.iconst 1, 1) := by decide +kernel
theorem dX8_init_58 : decode cX8_init 58 = .ok (.iastore, 1) := by decide +kernel
theorem dX8_init_59 : decode cX8_init 59 = .ok (.return_, 1) := by decide +kernel
theorem dX8_in_0 : decode cX8_in 0 = .ok (.iload_n 0, 1) := by decide +kernel
theorem dX8_in_1 : decode cX8_in 1 = .ok (.iload_n 1, 1) := by decide +kernel
theorem dX8_in_2 : decode cX8_in 2 = .ok (.if_icmp .lt 12, 3) := by decide +kernel
theorem dX8_in_5 : decode cX8_in 5 = .ok (.iload_n 0, 1) := by decide +kernel
theorem dX8_in_6 : decode cX8_in 6 = .ok (.iload_n 2, 1) := by decide +kernel
theorem dX8_in_7 : decode cX8_in 7 = .ok (.if_icmp .gt 7, 3) := by decide +kernel
theorem dX8_in_10 : decode cX8_in 10 = .ok (.iconst 1, 1) := by decide +kernel
theorem dX8_in_11 : decode cX8_in 11 = .ok (.goto 4, 3) := by decide +kernel
theorem dX8_in_14 : decode cX8_in 14 = .ok (.iconst 0, 1) := by decide +kernel
theorem dX8_in_15 : decode cX8_in 15 = .ok (.ireturn, 1) := by decide +kernel
theorem dX8_copies_0 : decode cX8_copies 0 = .ok (.iconst 0, 1) := by decide +kernel
theorem dX8_copies_1 : decode cX8_copies 1 = .ok (.istore_n 2, 1) := by decide +kernel
theorem dX8_copies_2 : decode cX8_copies 2 = .ok (.iload_n 2, 1) := by decide +kernel
theorem dX8_copies_3 : decode cX8_copies 3 = .ok (.bipush 110, 2) := by decide +kernel
theorem dX8_copies_5 : decode cX8_copies 5 = .ok (.if_icmp .ge 15, 3) := by decide +kernel
theorem dX8_copies_8 : decode cX8_copies 8 = .ok (.aload_n 1, 1) := by decide +kernel
theorem dX8_copies_9 : decode cX8_copies 9 = .ok (.iload_n 2, 1) := by decide +kernel
theorem dX8_copies_10 : decode cX8_copies 10 = .ok (.aload_n 0, 1) := by decide +kernel
theorem dX8_copies_11 : decode cX8_copies 11 = .ok (.iload_n 2, 1) := by decide +kernel
theorem dX8_copies_12 : decode cX8_copies 12 = .ok (.iaload, 1) := by decide +kernel
theorem dX8_copies_13 : decode cX8_copies 13 = .ok (.iastore, 1) := by decide +kernel
theorem dX8_copies_14 : decode cX8_copies 14 = .ok (.iinc 2 1, 3) := by decide +kernel
theorem dX8_copies_17 : decode cX8_copies 17 = .ok (.goto (-15), 3) := by decide +kernel
theorem dX8_copies_20 : decode cX8_copies 20 = .ok (.return_, 1) := by decide +kernel
theorem dX8_changes_0 : decode cX8_changes 0 = .ok (.aload_n 0, 1) := by decide +kernel
theorem dX8_changes_1 : decode cX8_changes 1 = .ok (.getfield 28, 3) := by decide +kernel
theorem dX8_changes_4 : decode cX8_changes 4 = .ok (.ifCond .eq 4, 3) := by decide +kernel
theorem dX8_changes_7 : decode cX8_changes 7 = .ok (.return_, 1) := by decide +kernel
theorem dX8_changes_8 : decode cX8_changes 8 = .ok (.aload_n 0, 1) := by decide +kernel
theorem dX8_changes_9 : decode cX8_changes 9 = .ok (.getfield 32, 3) := by decide +kernel
theorem dX8_changes_12 : decode cX8_changes 12 = .ok (.iconst 4, 1) := by decide +kernel
theorem dX8_changes_13 : decode cX8_changes 13 = .ok (.if_icmp .ne 43, 3) := by decide +kernel
theorem dX8_changes_16 : decode cX8_changes 16 = .ok (.iconst 0, 1) := by decide +kernel
theorem dX8_changes_17 : decode cX8_changes 17 = .ok (.istore_n 1, 1) := by decide +kernel
theorem dX8_changes_18 : decode cX8_changes 18 = .ok (.iload_n 1, 1) := by decide +kernel
theorem dX8_changes_19 : decode cX8_changes 19 = .ok (.sipush 330, 3) := by decide +kernel
theorem dX8_changes_22 : decode cX8_changes 22 = .ok (.if_icmp .ge 24, 3) := by decide +kernel
theorem dX8_changes_25 : decode cX8_changes 25 = .ok (.aload_n 0, 1) := by decide +kernel
theorem dX8_changes_26 : decode cX8_changes 26 = .ok (.getfield 13, 3) := by decide +kernel
theorem dX8_changes_29 : decode cX8_changes 29 = .ok (.iload_n 1, 1) := by decide +kernel
theorem dX8_changes_30 : decode cX8_changes 30 = .ok (.aload_n 0, 1) := by decide +kernel
theorem dX8_changes_31 : decode cX8_changes 31 = .ok (.getfield 13, 3) := by decide +kernel
theorem dX8_changes_34 : decode cX8_changes 34 = .ok (.iload_n 1, 1) := by decide +kernel
theorem dX8_changes_35 : decode cX8_changes 35 = .ok (.bipush 110, 2) := by decide +kernel
theorem dX8_changes_37 : decode cX8_changes 37 = .ok (.iadd, 1) := by decide +kernel
theorem dX8_changes_38 : decode cX8_changes 38 = .ok (.iaload, 1) := by decide +kernel
theorem dX8_changes_39 : decode cX8_changes 39 = .ok (.iastore, 1) := by decide +kernel
theorem dX8_changes_40 : decode cX8_changes 40 = .ok (.iinc 1 1, 3) := by decide +kernel
theorem dX8_changes_43 : decode cX8_changes 43 = .ok (.goto (-25), 3) := by decide +kernel
theorem dX8_changes_46 : decode cX8_changes 46 = .ok (.aload_n 0, 1) := by decide +kernel
theorem dX8_changes_47 : decode cX8_changes 47 = .ok (.dup, 1) := by decide +kernel
theorem dX8_changes_48 : decode cX8_changes 48 = .ok (.getfield 32, 3) := by decide +kernel
theorem dX8_changes_51 : decode cX8_changes 51 = .ok (.iconst 1, 1) := by decide +kernel
theorem dX8_changes_52 : decode cX8_changes 52 = .ok (.isub, 1) := by decide +kernel
theorem dX8_changes_53 : decode cX8_changes 53 = .ok (.putfield 32, 3) := by decide +kernel
theorem dX8_changes_56 : decode cX8_changes 56 = .ok (.iconst 0, 1) := by decide +kernel
theorem dX8_changes_57 : decode cX8_changes 57 = .ok (.istore_n 1, 1) := by decide +kernel
theorem dX8_changes_58 : decode cX8_changes 58 = .ok (.iload_n 1, 1) := by decide +kernel
theorem dX8_changes_59 : decode cX8_changes 59 = .ok (.bipush 110, 2) := by decide +kernel
theorem dX8_changes_61 : decode cX8_changes 61 = .ok (.if_icmp .ge 29, 3) := by decide +kernel
theorem dX8_changes_64 : decode cX8_changes 64 = .ok (.aload_n 0, 1) := by decide +kernel
theorem dX8_changes_65 : decode cX8_changes 65 = .ok (.getfield 13, 3) := by decide +kernel
theorem dX8_changes_68 : decode cX8_changes 68 = .ok (.bipush 110, 2) := by decide +kernel
theorem dX8_changes_70 : decode cX8_changes 70 = .ok (.aload_n 0, 1) := by decide +kernel
theorem dX8_changes_71 : decode cX8_changes 71 = .ok (.getfield 32, 3) := by decide +kernel
theorem dX8_changes_74 : decode cX8_changes 74 = .ok (.imul, 1) := by decide +kernel
theorem dX8_changes_75 : decode cX8_changes 75 = .ok (.iload_n 1, 1) := by decide +kernel
theorem dX8_changes_76 : decode cX8_changes 76 = .ok (.iadd, 1) := by decide +kernel
theorem dX8_changes_77 : decode cX8_changes 77 = .ok (.aload_n 0, 1) := by decide +kernel
theorem dX8_changes_78 : decode cX8_changes 78 = .ok (.getfield 7, 3) := by decide +kernel
theorem dX8_changes_81 : decode cX8_changes 81 = .ok (.iload_n 1, 1) := by decide +kernel
theorem dX8_changes_82 : decode cX8_changes 82 = .ok (.iaload, 1) := by decide +kernel
theorem dX8_changes_83 : decode cX8_changes 83 = .ok (.iastore, 1) := by decide +kernel
theorem dX8_changes_84 : decode cX8_changes 84 = .ok (.iinc 1 1, 3) := by decide +kernel
theorem dX8_changes_87 : decode cX8_changes 87 = .ok (.goto (-29), 3) := by decide +kernel
theorem dX8_changes_90 : decode cX8_changes 90 = .ok (.aload_n 0, 1) := by decide +kernel
theorem dX8_changes_91 : decode cX8_changes 91 = .ok (.dup, 1) := by decide +kernel
theorem dX8_changes_92 : decode cX8_changes 92 = .ok (.getfield 32, 3) := by decide +kernel
theorem dX8_changes_95 : decode cX8_changes 95 = .ok (.iconst 1, 1) := by decide +kernel
theorem dX8_changes_96 : decode cX8_changes 96 = .ok (.iadd, 1) := by decide +kernel
theorem dX8_changes_97 : decode cX8_changes 97 = .ok (.putfield 32, 3) := by decide +kernel
theorem dX8_changes_100 : decode cX8_changes 100 = .ok (.return_, 1) := by decide +kernel
theorem dX8_isClock_0 : decode cX8_isClock 0 = .ok (.iload_n 1, 1) := by decide +kernel
theorem dX8_isClock_1 : decode cX8_isClock 1 = .ok (.ifCond .lt 17, 3) := by decide +kernel
theorem dX8_isClock_4 : decode cX8_isClock 4 = .ok (.iload_n 1, 1) := by decide +kernel
theorem dX8_isClock_5 : decode cX8_isClock 5 = .ok (.aload_n 0, 1) := by decide +kernel
theorem dX8_isClock_6 : decode cX8_isClock 6 = .ok (.getfield 7, 3) := by decide +kernel
theorem dX8_isClock_9 : decode cX8_isClock 9 = .ok (.iconst 0, 1) := by decide +kernel
theorem dX8_isClock_10 : decode cX8_isClock 10 = .ok (.iaload, 1) := by decide +kernel
theorem dX8_isClock_11 : decode cX8_isClock 11 = .ok (.if_icmp .ge 7, 3) := by decide +kernel
theorem dX8_isClock_14 : decode cX8_isClock 14 = .ok (.iconst 1, 1) := by decide +kernel
theorem dX8_isClock_15 : decode cX8_isClock 15 = .ok (.goto 4, 3) := by decide +kernel
theorem dX8_isClock_18 : decode cX8_isClock 18 = .ok (.iconst 0, 1) := by decide +kernel
theorem dX8_isClock_19 : decode cX8_isClock 19 = .ok (.ireturn, 1) := by decide +kernel
theorem dX8_isGroup_0 : decode cX8_isGroup 0 = .ok (.iload_n 1, 1) := by decide +kernel
theorem dX8_isGroup_1 : decode cX8_isGroup 1 = .ok (.ifCond .lt 17, 3) := by decide +kernel
theorem dX8_isGroup_4 : decode cX8_isGroup 4 = .ok (.iload_n 1, 1) := by decide +kernel
theorem dX8_isGroup_5 : decode cX8_isGroup 5 = .ok (.aload_n 0, 1) := by decide +kernel
theorem dX8_isGroup_6 : decode cX8_isGroup 6 = .ok (.getfield 7, 3) := by decide +kernel
theorem dX8_isGroup_9 : decode cX8_isGroup 9 = .ok (.iconst 1, 1) := by decide +kernel
theorem dX8_isGroup_10 : decode cX8_isGroup 10 = .ok (.iaload, 1) := by decide +kernel
theorem dX8_isGroup_11 : decode cX8_isGroup 11 = .ok (.if_icmp .ge 7, 3) := by decide +kernel
theorem dX8_isGroup_14 : decode cX8_isGroup 14 = .ok (.iconst 1, 1) := by decide +kernel
theorem dX8_isGroup_15 : decode cX8_isGroup 15 = .ok (.goto 4, 3) := by decide +kernel
theorem dX8_isGroup_18 : decode cX8_isGroup 18 = .ok (.iconst 0, 1) := by decide +kernel
theorem dX8_isGroup_19 : decode cX8_isGroup 19 = .ok (.ireturn, 1) := by decide +kernel
theorem dX8_of_0 : decode cX8_of 0 = .ok (.aload_n 0, 1) := by decide +kernel
theorem dX8_of_1 : decode cX8_of 1 = .ok (.getfield 7, 3) := by decide +kernel
theorem dX8_of_4 : decode cX8_of 4 = .ok (.iconst 4, 1) := by decide +kernel
theorem dX8_of_5 : decode cX8_of 5 = .ok (.bipush 15, 2) := by decide +kernel
theorem dX8_of_7 : decode cX8_of 7 = .ok (.iload_n 1, 1) := by decide +kernel
theorem dX8_of_8 : decode cX8_of 8 = .ok (.imul, 1) := by decide +kernel
theorem dX8_of_9 : decode cX8_of 9 = .ok (.iadd, 1) := by decide +kernel
theorem dX8_of_10 : decode cX8_of 10 = .ok (.iload_n 2, 1) := by decide +kernel
theorem dX8_of_11 : decode cX8_of 11 = .ok (.iadd, 1) := by decide +kernel
theorem dX8_of_12 : decode cX8_of 12 = .ok (.iaload, 1) := by decide +kernel
theorem dX8_of_13 : decode cX8_of 13 = .ok (.ireturn, 1) := by decide +kernel
theorem dX8_sets_0 : decode cX8_sets 0 = .ok (.aload_n 0, 1) := by decide +kernel
theorem dX8_sets_1 : decode cX8_sets 1 = .ok (.getfield 7, 3) := by decide +kernel
theorem dX8_sets_4 : decode cX8_sets 4 = .ok (.iconst 4, 1) := by decide +kernel
theorem dX8_sets_5 : decode cX8_sets 5 = .ok (.bipush 15, 2) := by decide +kernel
theorem dX8_sets_7 : decode cX8_sets 7 = .ok (.iload_n 1, 1) := by decide +kernel
theorem dX8_sets_8 : decode cX8_sets 8 = .ok (.imul, 1) := by decide +kernel
theorem dX8_sets_9 : decode cX8_sets 9 = .ok (.iadd, 1) := by decide +kernel
theorem dX8_sets_10 : decode cX8_sets 10 = .ok (.iload_n 2, 1) := by decide +kernel
theorem dX8_sets_11 : decode cX8_sets 11 = .ok (.iadd, 1) := by decide +kernel
theorem dX8_sets_12 : decode cX8_sets 12 = .ok (.iload_n 3, 1) := by decide +kernel
theorem dX8_sets_13 : decode cX8_sets 13 = .ok (.iastore, 1) := by decide +kernel
theorem dX8_sets_14 : decode cX8_sets 14 = .ok (.return_, 1) := by decide +kernel
theorem dX8_adds_0 : decode cX8_adds 0 = .ok (.aload_n 0, 1) := by decide +kernel
theorem dX8_adds_1 : decode cX8_adds 1 = .ok (.getfield 7, 3) := by decide +kernel
theorem dX8_adds_4 : decode cX8_adds 4 = .ok (.iconst 4, 1) := by decide +kernel
theorem dX8_adds_5 : decode cX8_adds 5 = .ok (.bipush 15, 2) := by decide +kernel
theorem dX8_adds_7 : decode cX8_adds 7 = .ok (.iload_n 1, 1) := by decide +kernel
theorem dX8_adds_8 : decode cX8_adds 8 = .ok (.imul, 1) := by decide +kernel
theorem dX8_adds_9 : decode cX8_adds 9 = .ok (.iadd, 1) := by decide +kernel
theorem dX8_adds_10 : decode cX8_adds 10 = .ok (.iload_n 2, 1) := by decide +kernel
theorem dX8_adds_11 : decode cX8_adds 11 = .ok (.iadd, 1) := by decide +kernel
theorem dX8_adds_12 : decode cX8_adds 12 = .ok (.dup2, 1) := by decide +kernel
theorem dX8_adds_13 : decode cX8_adds 13 = .ok (.iaload, 1) := by decide +kernel
theorem dX8_adds_14 : decode cX8_adds 14 = .ok (.iload_n 3, 1) := by decide +kernel
theorem dX8_adds_15 : decode cX8_adds 15 = .ok (.iadd, 1) := by decide +kernel
theorem dX8_adds_16 : decode cX8_adds 16 = .ok (.iastore, 1) := by decide +kernel
theorem dX8_adds_17 : decode cX8_adds 17 = .ok (.return_, 1) := by decide +kernel
theorem dX8_ofGroup_0 : decode cX8_ofGroup 0 = .ok (.aload_n 0, 1) := by decide +kernel
theorem dX8_ofGroup_1 : decode cX8_ofGroup 1 = .ok (.getfield 7, 3) := by decide +kernel
theorem dX8_ofGroup_4 : decode cX8_ofGroup 4 = .ok (.bipush 94, 2) := by decide +kernel
theorem dX8_ofGroup_6 : decode cX8_ofGroup 6 = .ok (.iconst 4, 1) := by decide +kernel
theorem dX8_ofGroup_7 : decode cX8_ofGroup 7 = .ok (.iload_n 1, 1) := by decide +kernel
theorem dX8_ofGroup_8 : decode cX8_ofGroup 8 = .ok (.imul, 1) := by decide +kernel
theorem dX8_ofGroup_9 : decode cX8_ofGroup 9 = .ok (.iadd, 1) := by decide +kernel
theorem dX8_ofGroup_10 : decode cX8_ofGroup 10 = .ok (.iload_n 2, 1) := by decide +kernel
theorem dX8_ofGroup_11 : decode cX8_ofGroup 11 = .ok (.iadd, 1) := by decide +kernel
theorem dX8_ofGroup_12 : decode cX8_ofGroup 12 = .ok (.iaload, 1) := by decide +kernel
theorem dX8_ofGroup_13 : decode cX8_ofGroup 13 = .ok (.ireturn, 1) := by decide +kernel
theorem dX8_draw_0 : decode cX8_draw 0 = .ok (.aload_n 0, 1) := by decide +kernel
theorem dX8_draw_1 : decode cX8_draw 1 = .ok (.getfield 7, 3) := by decide +kernel
theorem dX8_draw_4 : decode cX8_draw 4 = .ok (.iconst 3, 1) := by decide +kernel
theorem dX8_draw_5 : decode cX8_draw 5 = .ok (.aload_n 0, 1) := by decide +kernel
theorem dX8_draw_6 : decode cX8_draw 6 = .ok (.getfield 7, 3) := by decide +kernel
theorem dX8_draw_9 : decode cX8_draw 9 = .ok (.iconst 3, 1) := by decide +kernel
theorem dX8_draw_10 : decode cX8_draw 10 = .ok (.iaload, 1) := by decide +kernel
theorem dX8_draw_11 : decode cX8_draw 11 = .ok (.sipush 421, 3) := by decide +kernel
theorem dX8_draw_14 : decode cX8_draw 14 = .ok (.imul, 1) := by decide +kernel
theorem dX8_draw_15 : decode cX8_draw 15 = .ok (.sipush 1663, 3) := by decide +kernel
theorem dX8_draw_18 : decode cX8_draw 18 = .ok (.iadd, 1) := by decide +kernel
theorem dX8_draw_19 : decode cX8_draw 19 = .ok (.sipush 10000, 3) := by decide +kernel
theorem dX8_draw_22 : decode cX8_draw 22 = .ok (.irem, 1) := by decide +kernel
theorem dX8_draw_23 : decode cX8_draw 23 = .ok (.iastore, 1) := by decide +kernel
theorem dX8_draw_24 : decode cX8_draw 24 = .ok (.aload_n 0, 1) := by decide +kernel
theorem dX8_draw_25 : decode cX8_draw 25 = .ok (.getfield 7, 3) := by decide +kernel
theorem dX8_draw_28 : decode cX8_draw 28 = .ok (.iconst 3, 1) := by decide +kernel
theorem dX8_draw_29 : decode cX8_draw 29 = .ok (.iaload, 1) := by decide +kernel
theorem dX8_draw_30 : decode cX8_draw 30 = .ok (.iload_n 1, 1) := by decide +kernel
theorem dX8_draw_31 : decode cX8_draw 31 = .ok (.irem, 1) := by decide +kernel
theorem dX8_draw_32 : decode cX8_draw 32 = .ok (.ireturn, 1) := by decide +kernel
theorem dX8_places_0 : decode cX8_places 0 = .ok (.aload_n 0, 1) := by decide +kernel
theorem dX8_places_1 : decode cX8_places 1 = .ok (.iload_n 1, 1) := by decide +kernel
theorem dX8_places_2 : decode cX8_places 2 = .ok (.iconst 0, 1) := by decide +kernel
theorem dX8_places_3 : decode cX8_places 3 = .ok (.invokevirtual 36, 3) := by decide +kernel
theorem dX8_places_6 : decode cX8_places 6 = .ok (.iconst 2, 1) := by decide +kernel
theorem dX8_places_7 : decode cX8_places 7 = .ok (.if_icmp .ne 12, 3) := by decide +kernel
theorem dX8_places_10 : decode cX8_places 10 = .ok (.aload_n 0, 1) := by decide +kernel
theorem dX8_places_11 : decode cX8_places 11 = .ok (.iload_n 1, 1) := by decide +kernel
theorem dX8_places_12 : decode cX8_places 12 = .ok (.iconst 2, 1) := by decide +kernel
theorem dX8_places_13 : decode cX8_places 13 = .ok (.invokevirtual 36, 3) := by decide +kernel
theorem dX8_places_16 : decode cX8_places 16 = .ok (.iconst 1, 1) := by decide +kernel
theorem dX8_places_17 : decode cX8_places 17 = .ok (.iadd, 1) := by decide +kernel
theorem dX8_places_18 : decode cX8_places 18 = .ok (.ireturn, 1) := by decide +kernel
theorem dX8_places_19 : decode cX8_places 19 = .ok (.iconst 0, 1) := by decide +kernel
theorem dX8_places_20 : decode cX8_places 20 = .ok (.istore_n 2, 1) := by decide +kernel
theorem dX8_places_21 : decode cX8_places 21 = .ok (.iconst 1, 1) := by decide +kernel
theorem dX8_places_22 : decode cX8_places 22 = .ok (.istore_n 3, 1) := by decide +kernel
theorem dX8_places_23 : decode cX8_places 23 = .ok (.iload_n 3, 1) := by decide +kernel
theorem dX8_places_24 : decode cX8_places 24 = .ok (.iconst 5, 1) := by decide +kernel
theorem dX8_places_25 : decode cX8_places 25 = .ok (.if_icmp .ge 26, 3) := by decide +kernel
theorem dX8_places_28 : decode cX8_places 28 = .ok (.iload_n 2, 1) := by decide +kernel
theorem dX8_places_29 : decode cX8_places 29 = .ok (.aload_n 0, 1) := by decide +kernel
theorem dX8_places_30 : decode cX8_places 30 = .ok (.iload_n 1, 1) := by decide +kernel
theorem dX8_places_31 : decode cX8_places 31 = .ok (.iload_n 3, 1) := by decide +kernel
theorem dX8_places_32 : decode cX8_places 32 = .ok (.invokevirtual 36, 3) := by decide +kernel
theorem dX8_places_35 : decode cX8_places 35 = .ok (.ifCond .le 7, 3) := by decide +kernel
theorem dX8_places_38 : decode cX8_places 38 = .ok (.iconst 1, 1) := by decide +kernel
theorem dX8_places_39 : decode cX8_places 39 = .ok (.goto 4, 3) := by decide +kernel
theorem dX8_places_42 : decode cX8_places 42 = .ok (.iconst 0, 1) := by decide +kernel
theorem dX8_places_43 : decode cX8_places 43 = .ok (.iadd, 1) := by decide +kernel
theorem dX8_places_44 : decode cX8_places 44 = .ok (.istore_n 2, 1) := by decide +kernel
theorem dX8_places_45 : decode cX8_places 45 = .ok (.iinc 3 1, 3) := by decide +kernel
theorem dX8_places_48 : decode cX8_places 48 = .ok (.goto (-25), 3) := by decide +kernel
theorem dX8_places_51 : decode cX8_places 51 = .ok (.iload_n 2, 1) := by decide +kernel
theorem dX8_places_52 : decode cX8_places 52 = .ok (.ireturn, 1) := by decide +kernel
theorem dX8_gapAt_0 : decode cX8_gapAt 0 = .ok (.aload_n 0, 1) := by decide +kernel
theorem dX8_gapAt_1 : decode cX8_gapAt 1 = .ok (.iload_n 1, 1) := by decide +kernel
theorem dX8_gapAt_2 : decode cX8_gapAt 2 = .ok (.iconst 0, 1) := by decide +kernel
theorem dX8_gapAt_3 : decode cX8_gapAt 3 = .ok (.invokevirtual 36, 3) := by decide +kernel
theorem dX8_gapAt_6 : decode cX8_gapAt 6 = .ok (.iconst 2, 1) := by decide +kernel
theorem dX8_gapAt_7 : decode cX8_gapAt 7 = .ok (.if_icmp .ne 29, 3) := by decide +kernel
theorem dX8_gapAt_10 : decode cX8_gapAt 10 = .ok (.iload_n 2, 1) := by decide +kernel
theorem dX8_gapAt_11 : decode cX8_gapAt 11 = .ok (.aload_n 0, 1) := by decide +kernel
theorem dX8_gapAt_12 : decode cX8_gapAt 12 = .ok (.iload_n 1, 1) := by decide +kernel
theorem dX8_gapAt_13 : decode cX8_gapAt 13 = .ok (.iconst 2, 1) := by decide +kernel
theorem dX8_gapAt_14 : decode cX8_gapAt 14 = .ok (.invokevirtual 36, 3) := by decide +kernel
theorem dX8_gapAt_17 : decode cX8_gapAt 17 = .ok (.if_icmp .ge 12, 3) := by decide +kernel
theorem dX8_gapAt_20 : decode cX8_gapAt 20 = .ok (.aload_n 0, 1) := by decide +kernel
theorem dX8_gapAt_21 : decode cX8_gapAt 21 = .ok (.iload_n 1, 1) := by decide +kernel
theorem dX8_gapAt_22 : decode cX8_gapAt 22 = .ok (.iconst 1, 1) := by decide +kernel
theorem dX8_gapAt_23 : decode cX8_gapAt 23 = .ok (.invokevirtual 36, 3) := by decide +kernel
theorem dX8_gapAt_26 : decode cX8_gapAt 26 = .ok (.goto 9, 3) := by decide +kernel
theorem dX8_gapAt_29 : decode cX8_gapAt 29 = .ok (.aload_n 0, 1) := by decide +kernel
theorem dX8_gapAt_30 : decode cX8_gapAt 30 = .ok (.iload_n 1, 1) := by decide +kernel
theorem dX8_gapAt_31 : decode cX8_gapAt 31 = .ok (.iconst 3, 1) := by decide +kernel
theorem dX8_gapAt_32 : decode cX8_gapAt 32 = .ok (.invokevirtual 36, 3) := by decide +kernel
theorem dX8_gapAt_35 : decode cX8_gapAt 35 = .ok (.ireturn, 1) := by decide +kernel
theorem dX8_gapAt_36 : decode cX8_gapAt 36 = .ok (.aload_n 0, 1) := by decide +kernel
theorem dX8_gapAt_37 : decode cX8_gapAt 37 = .ok (.iload_n 1, 1) := by decide +kernel
theorem dX8_gapAt_38 : decode cX8_gapAt 38 = .ok (.iconst 1, 1) := by decide +kernel
theorem dX8_gapAt_39 : decode cX8_gapAt 39 = .ok (.iload_n 2, 1) := by decide +kernel
theorem dX8_gapAt_40 : decode cX8_gapAt 40 = .ok (.iadd, 1) := by decide +kernel
theorem dX8_gapAt_41 : decode cX8_gapAt 41 = .ok (.invokevirtual 36, 3) := by decide +kernel
theorem dX8_gapAt_44 : decode cX8_gapAt 44 = .ok (.ireturn, 1) := by decide +kernel
theorem dX8_begins_0 : decode cX8_begins 0 = .ok (.aload_n 0, 1) := by decide +kernel
theorem dX8_begins_1 : decode cX8_begins 1 = .ok (.iload_n 1, 1) := by decide +kernel
theorem dX8_begins_2 : decode cX8_begins 2 = .ok (.iconst 0, 1) := by decide +kernel
theorem dX8_begins_3 : decode cX8_begins 3 = .ok (.invokevirtual 36, 3) := by decide +kernel
theorem dX8_begins_6 : decode cX8_begins 6 = .ok (.iconst 1, 1) := by decide +kernel
theorem dX8_begins_7 : decode cX8_begins 7 = .ok (.if_icmp .ne 15, 3) := by decide +kernel
theorem dX8_begins_10 : decode cX8_begins 10 = .ok (.aload_n 0, 1) := by decide +kernel
theorem dX8_begins_11 : decode cX8_begins 11 = .ok (.aload_n 0, 1) := by decide +kernel
theorem dX8_begins_12 : decode cX8_begins 12 = .ok (.iload_n 1, 1) := by decide +kernel
theorem dX8_begins_13 : decode cX8_begins 13 = .ok (.invokevirtual 40, 3) := by decide +kernel
theorem dX8_begins_16 : decode cX8_begins 16 = .ok (.invokevirtual 44, 3) := by decide +kernel
theorem dX8_begins_19 : decode cX8_begins 19 = .ok (.goto 10, 3) := by decide +kernel
theorem dX8_begins_22 : decode cX8_begins 22 = .ok (.iload_n 2, 1) := by decide +kernel
theorem dX8_begins_23 : decode cX8_begins 23 = .ok (.aload_n 0, 1) := by decide +kernel
theorem dX8_begins_24 : decode cX8_begins 24 = .ok (.iload_n 1, 1) := by decide +kernel
theorem dX8_begins_25 : decode cX8_begins 25 = .ok (.invokevirtual 40, 3) := by decide +kernel
theorem dX8_begins_28 : decode cX8_begins 28 = .ok (.irem, 1) := by decide +kernel
theorem dX8_begins_29 : decode cX8_begins 29 = .ok (.istore_n 3, 1) := by decide +kernel
theorem dX8_begins_30 : decode cX8_begins 30 = .ok (.aload_n 0, 1) := by decide +kernel
theorem dX8_begins_31 : decode cX8_begins 31 = .ok (.iload_n 1, 1) := by decide +kernel
theorem dX8_begins_32 : decode cX8_begins 32 = .ok (.iconst 5, 1) := by decide +kernel
theorem dX8_begins_33 : decode cX8_begins 33 = .ok (.iload_n 3, 1) := by decide +kernel
theorem dX8_begins_34 : decode cX8_begins 34 = .ok (.invokevirtual 47, 3) := by decide +kernel
theorem dX8_begins_37 : decode cX8_begins 37 = .ok (.aload_n 0, 1) := by decide +kernel
theorem dX8_begins_38 : decode cX8_begins 38 = .ok (.iload_n 1, 1) := by decide +kernel
theorem dX8_begins_39 : decode cX8_begins 39 = .ok (.bipush 6, 2) := by decide +kernel
theorem dX8_begins_41 : decode cX8_begins 41 = .ok (.aload_n 0, 1) := by decide +kernel
theorem dX8_begins_42 : decode cX8_begins 42 = .ok (.iload_n 1, 1) := by decide +kernel
theorem dX8_begins_43 : decode cX8_begins 43 = .ok (.iload_n 3, 1) := by decide +kernel
theorem dX8_begins_44 : decode cX8_begins 44 = .ok (.invokevirtual 51, 3) := by decide +kernel
theorem dX8_begins_47 : decode cX8_begins 47 = .ok (.invokevirtual 47, 3) := by decide +kernel
theorem dX8_begins_50 : decode cX8_begins 50 = .ok (.aload_n 0, 1) := by decide +kernel
theorem dX8_begins_51 : decode cX8_begins 51 = .ok (.iload_n 1, 1) := by decide +kernel
theorem dX8_begins_52 : decode cX8_begins 52 = .ok (.bipush 7, 2) := by decide +kernel
theorem dX8_begins_54 : decode cX8_begins 54 = .ok (.iconst 0, 1) := by decide +kernel
theorem dX8_begins_55 : decode cX8_begins 55 = .ok (.invokevirtual 47, 3) := by decide +kernel
theorem dX8_begins_58 : decode cX8_begins 58 = .ok (.return_, 1) := by decide +kernel
theorem dX8_rest_0 : decode cX8_rest 0 = .ok (.aload_n 0, 1) := by decide +kernel
theorem dX8_rest_1 : decode cX8_rest 1 = .ok (.iload_n 1, 1) := by decide +kernel
theorem dX8_rest_2 : decode cX8_rest 2 = .ok (.bipush 6, 2) := by decide +kernel
theorem dX8_rest_4 : decode cX8_rest 4 = .ok (.invokevirtual 36, 3) := by decide +kernel
theorem dX8_rest_7 : decode cX8_rest 7 = .ok (.aload_n 0, 1) := by decide +kernel
theorem dX8_rest_8 : decode cX8_rest 8 = .ok (.iload_n 1, 1) := by decide +kernel
theorem dX8_rest_9 : decode cX8_rest 9 = .ok (.bipush 7, 2) := by decide +kernel
theorem dX8_rest_11 : decode cX8_rest 11 = .ok (.invokevirtual 36, 3) := by decide +kernel
theorem dX8_rest_14 : decode cX8_rest 14 = .ok (.isub, 1) := by decide +kernel
theorem dX8_rest_15 : decode cX8_rest 15 = .ok (.ireturn, 1) := by decide +kernel
theorem dX8_ones_0 : decode cX8_ones 0 = .ok (.iconst 0, 1) := by decide +kernel
theorem dX8_ones_1 : decode cX8_ones 1 = .ok (.istore_n 2, 1) := by decide +kernel
theorem dX8_ones_2 : decode cX8_ones 2 = .ok (.iload_n 1, 1) := by decide +kernel
theorem dX8_ones_3 : decode cX8_ones 3 = .ok (.istore_n 3, 1) := by decide +kernel
theorem dX8_ones_4 : decode cX8_ones 4 = .ok (.iload_n 3, 1) := by decide +kernel
theorem dX8_ones_5 : decode cX8_ones 5 = .ok (.ifCond .eq 15, 3) := by decide +kernel
theorem dX8_ones_8 : decode cX8_ones 8 = .ok (.iinc 2 1, 3) := by decide +kernel
theorem dX8_ones_11 : decode cX8_ones 11 = .ok (.iload_n 3, 1) := by decide +kernel
theorem dX8_ones_12 : decode cX8_ones 12 = .ok (.iload_n 3, 1) := by decide +kernel
theorem dX8_ones_13 : decode cX8_ones 13 = .ok (.iconst 1, 1) := by decide +kernel
theorem dX8_ones_14 : decode cX8_ones 14 = .ok (.isub, 1) := by decide +kernel
theorem dX8_ones_15 : decode cX8_ones 15 = .ok (.iand, 1) := by decide +kernel
theorem dX8_ones_16 : decode cX8_ones 16 = .ok (.istore_n 3, 1) := by decide +kernel
theorem dX8_ones_17 : decode cX8_ones 17 = .ok (.goto (-13), 3) := by decide +kernel
theorem dX8_ones_20 : decode cX8_ones 20 = .ok (.iload_n 2, 1) := by decide +kernel
theorem dX8_ones_21 : decode cX8_ones 21 = .ok (.ireturn, 1) := by decide +kernel
theorem dX8_tells_0 : decode cX8_tells 0 = .ok (.aload_n 0, 1) := by decide +kernel
theorem dX8_tells_1 : decode cX8_tells 1 = .ok (.iload_n 1, 1) := by decide +kernel
theorem dX8_tells_2 : decode cX8_tells 2 = .ok (.bipush 6, 2) := by decide +kernel
theorem dX8_tells_4 : decode cX8_tells 4 = .ok (.invokevirtual 36, 3) := by decide +kernel
theorem dX8_tells_7 : decode cX8_tells 7 = .ok (.istore_n 2, 1) := by decide +kernel
theorem dX8_tells_8 : decode cX8_tells 8 = .ok (.aload_n 0, 1) := by decide +kernel
theorem dX8_tells_9 : decode cX8_tells 9 = .ok (.iload_n 1, 1) := by decide +kernel
theorem dX8_tells_10 : decode cX8_tells 10 = .ok (.bipush 8, 2) := by decide +kernel
theorem dX8_tells_12 : decode cX8_tells 12 = .ok (.iconst 1, 1) := by decide +kernel
theorem dX8_tells_13 : decode cX8_tells 13 = .ok (.invokevirtual 54, 3) := by decide +kernel
theorem dX8_tells_16 : decode cX8_tells 16 = .ok (.aload_n 0, 1) := by decide +kernel
theorem dX8_tells_17 : decode cX8_tells 17 = .ok (.iload_n 1, 1) := by decide +kernel
theorem dX8_tells_18 : decode cX8_tells 18 = .ok (.bipush 9, 2) := by decide +kernel
theorem dX8_tells_20 : decode cX8_tells 20 = .ok (.iload_n 2, 1) := by decide +kernel
theorem dX8_tells_21 : decode cX8_tells 21 = .ok (.invokevirtual 54, 3) := by decide +kernel
theorem dX8_tells_24 : decode cX8_tells 24 = .ok (.aload_n 0, 1) := by decide +kernel
theorem dX8_tells_25 : decode cX8_tells 25 = .ok (.iload_n 1, 1) := by decide +kernel
theorem dX8_tells_26 : decode cX8_tells 26 = .ok (.bipush 10, 2) := by decide +kernel
theorem dX8_tells_28 : decode cX8_tells 28 = .ok (.iload_n 2, 1) := by decide +kernel
theorem dX8_tells_29 : decode cX8_tells 29 = .ok (.iload_n 2, 1) := by decide +kernel
theorem dX8_tells_30 : decode cX8_tells 30 = .ok (.imul, 1) := by decide +kernel
theorem dX8_tells_31 : decode cX8_tells 31 = .ok (.invokevirtual 54, 3) := by decide +kernel
theorem dX8_tells_34 : decode cX8_tells 34 = .ok (.aload_n 0, 1) := by decide +kernel
theorem dX8_tells_35 : decode cX8_tells 35 = .ok (.iload_n 1, 1) := by decide +kernel
theorem dX8_tells_36 : decode cX8_tells 36 = .ok (.bipush 11, 2) := by decide +kernel
theorem dX8_tells_38 : decode cX8_tells 38 = .ok (.aload_n 0, 1) := by decide +kernel
theorem dX8_tells_39 : decode cX8_tells 39 = .ok (.iload_n 1, 1) := by decide +kernel
theorem dX8_tells_40 : decode cX8_tells 40 = .ok (.bipush 11, 2) := by decide +kernel
theorem dX8_tells_42 : decode cX8_tells 42 = .ok (.invokevirtual 36, 3) := by decide +kernel
theorem dX8_tells_45 : decode cX8_tells 45 = .ok (.iload_n 2, 1) := by decide +kernel
theorem dX8_tells_46 : decode cX8_tells 46 = .ok (.if_icmp .le 13, 3) := by decide +kernel
theorem dX8_tells_49 : decode cX8_tells 49 = .ok (.aload_n 0, 1) := by decide +kernel
theorem dX8_tells_50 : decode cX8_tells 50 = .ok (.iload_n 1, 1) := by decide +kernel
theorem dX8_tells_51 : decode cX8_tells 51 = .ok (.bipush 11, 2) := by decide +kernel
theorem dX8_tells_53 : decode cX8_tells 53 = .ok (.invokevirtual 36, 3) := by decide +kernel
theorem dX8_tells_56 : decode cX8_tells 56 = .ok (.goto 4, 3) := by decide +kernel
theorem dX8_tells_59 : decode cX8_tells 59 = .ok (.iload_n 2, 1) := by decide +kernel
theorem dX8_tells_60 : decode cX8_tells 60 = .ok (.invokevirtual 47, 3) := by decide +kernel
theorem dX8_tells_63 : decode cX8_tells 63 = .ok (.aload_n 0, 1) := by decide +kernel
theorem dX8_tells_64 : decode cX8_tells 64 = .ok (.iload_n 1, 1) := by decide +kernel
theorem dX8_tells_65 : decode cX8_tells 65 = .ok (.aload_n 0, 1) := by decide +kernel
theorem dX8_tells_66 : decode cX8_tells 66 = .ok (.iload_n 1, 1) := by decide +kernel
theorem dX8_tells_67 : decode cX8_tells 67 = .ok (.iconst 5, 1) := by decide +kernel
theorem dX8_tells_68 : decode cX8_tells 68 = .ok (.invokevirtual 36, 3) := by decide +kernel
theorem dX8_tells_71 : decode cX8_tells 71 = .ok (.iconst 1, 1) := by decide +kernel
theorem dX8_tells_72 : decode cX8_tells 72 = .ok (.iadd, 1) := by decide +kernel
theorem dX8_tells_73 : decode cX8_tells 73 = .ok (.invokevirtual 57, 3) := by decide +kernel
theorem dX8_tells_76 : decode cX8_tells 76 = .ok (.return_, 1) := by decide +kernel
theorem dX8_ends_0 : decode cX8_ends 0 = .ok (.iconst 0, 1) := by decide +kernel
theorem dX8_ends_1 : decode cX8_ends 1 = .ok (.istore_n 1, 1) := by decide +kernel
theorem dX8_ends_2 : decode cX8_ends 2 = .ok (.iconst 0, 1) := by decide +kernel
theorem dX8_ends_3 : decode cX8_ends 3 = .ok (.istore_n 2, 1) := by decide +kernel
theorem dX8_ends_4 : decode cX8_ends 4 = .ok (.iload_n 2, 1) := by decide +kernel
theorem dX8_ends_5 : decode cX8_ends 5 = .ok (.aload_n 0, 1) := by decide +kernel
theorem dX8_ends_6 : decode cX8_ends 6 = .ok (.getfield 7, 3) := by decide +kernel
theorem dX8_ends_9 : decode cX8_ends 9 = .ok (.iconst 0, 1) := by decide +kernel
theorem dX8_ends_10 : decode cX8_ends 10 = .ok (.iaload, 1) := by decide +kernel
theorem dX8_ends_11 : decode cX8_ends 11 = .ok (.if_icmp .ge 36, 3) := by decide +kernel
theorem dX8_ends_14 : decode cX8_ends 14 = .ok (.aload_n 0, 1) := by decide +kernel
theorem dX8_ends_15 : decode cX8_ends 15 = .ok (.iload_n 2, 1) := by decide +kernel
theorem dX8_ends_16 : decode cX8_ends 16 = .ok (.bipush 7, 2) := by decide +kernel
theorem dX8_ends_18 : decode cX8_ends 18 = .ok (.iconst 1, 1) := by decide +kernel
theorem dX8_ends_19 : decode cX8_ends 19 = .ok (.invokevirtual 54, 3) := by decide +kernel
theorem dX8_ends_22 : decode cX8_ends 22 = .ok (.aload_n 0, 1) := by decide +kernel
theorem dX8_ends_23 : decode cX8_ends 23 = .ok (.iload_n 2, 1) := by decide +kernel
theorem dX8_ends_24 : decode cX8_ends 24 = .ok (.invokevirtual 61, 3) := by decide +kernel
theorem dX8_ends_27 : decode cX8_ends 27 = .ok (.ifCond .ne 14, 3) := by decide +kernel
theorem dX8_ends_30 : decode cX8_ends 30 = .ok (.aload_n 0, 1) := by decide +kernel
theorem dX8_ends_31 : decode cX8_ends 31 = .ok (.iload_n 2, 1) := by decide +kernel
theorem dX8_ends_32 : decode cX8_ends 32 = .ok (.invokevirtual 64, 3) := by decide +kernel
theorem dX8_ends_35 : decode cX8_ends 35 = .ok (.iload_n 1, 1) := by decide +kernel
theorem dX8_ends_36 : decode cX8_ends 36 = .ok (.iconst 1, 1) := by decide +kernel
theorem dX8_ends_37 : decode cX8_ends 37 = .ok (.iload_n 2, 1) := by decide +kernel
theorem dX8_ends_38 : decode cX8_ends 38 = .ok (.ishl, 1) := by decide +kernel
theorem dX8_ends_39 : decode cX8_ends 39 = .ok (.ior, 1) := by decide +kernel
theorem dX8_ends_40 : decode cX8_ends 40 = .ok (.istore_n 1, 1) := by decide +kernel
theorem dX8_ends_41 : decode cX8_ends 41 = .ok (.iinc 2 1, 3) := by decide +kernel
theorem dX8_ends_44 : decode cX8_ends 44 = .ok (.goto (-40), 3) := by decide +kernel
theorem dX8_ends_47 : decode cX8_ends 47 = .ok (.iconst 0, 1) := by decide +kernel
theorem dX8_ends_48 : decode cX8_ends 48 = .ok (.istore_n 2, 1) := by decide +kernel
theorem dX8_ends_49 : decode cX8_ends 49 = .ok (.iload_n 2, 1) := by decide +kernel
theorem dX8_ends_50 : decode cX8_ends 50 = .ok (.aload_n 0, 1) := by decide +kernel
theorem dX8_ends_51 : decode cX8_ends 51 = .ok (.getfield 7, 3) := by decide +kernel
theorem dX8_ends_54 : decode cX8_ends 54 = .ok (.iconst 1, 1) := by decide +kernel
theorem dX8_ends_55 : decode cX8_ends 55 = .ok (.iaload, 1) := by decide +kernel
theorem dX8_ends_56 : decode cX8_ends 56 = .ok (.if_icmp .ge 65, 3) := by decide +kernel
theorem dX8_ends_59 : decode cX8_ends 59 = .ok (.aload_n 0, 1) := by decide +kernel
theorem dX8_ends_60 : decode cX8_ends 60 = .ok (.iload_n 1, 1) := by decide +kernel
theorem dX8_ends_61 : decode cX8_ends 61 = .ok (.aload_n 0, 1) := by decide +kernel
theorem dX8_ends_62 : decode cX8_ends 62 = .ok (.iload_n 2, 1) := by decide +kernel
theorem dX8_ends_63 : decode cX8_ends 63 = .ok (.iconst 1, 1) := by decide +kernel
theorem dX8_ends_64 : decode cX8_ends 64 = .ok (.invokevirtual 68, 3) := by decide +kernel
theorem dX8_ends_67 : decode cX8_ends 67 = .ok (.iand, 1) := by decide +kernel
theorem dX8_ends_68 : decode cX8_ends 68 = .ok (.invokevirtual 71, 3) := by decide +kernel
theorem dX8_ends_71 : decode cX8_ends 71 = .ok (.istore_n 3, 1) := by decide +kernel
theorem dX8_ends_72 : decode cX8_ends 72 = .ok (.aload_n 0, 1) := by decide +kernel
theorem dX8_ends_73 : decode cX8_ends 73 = .ok (.getfield 7, 3) := by decide +kernel
theorem dX8_ends_76 : decode cX8_ends 76 = .ok (.bipush 94, 2) := by decide +kernel
theorem dX8_ends_78 : decode cX8_ends 78 = .ok (.iconst 4, 1) := by decide +kernel
theorem dX8_ends_79 : decode cX8_ends 79 = .ok (.iload_n 2, 1) := by decide +kernel
theorem dX8_ends_80 : decode cX8_ends 80 = .ok (.imul, 1) := by decide +kernel
theorem dX8_ends_81 : decode cX8_ends 81 = .ok (.iadd, 1) := by decide +kernel
theorem dX8_ends_82 : decode cX8_ends 82 = .ok (.iconst 2, 1) := by decide +kernel
theorem dX8_ends_83 : decode cX8_ends 83 = .ok (.iadd, 1) := by decide +kernel
theorem dX8_ends_84 : decode cX8_ends 84 = .ok (.dup2, 1) := by decide +kernel
theorem dX8_ends_85 : decode cX8_ends 85 = .ok (.iaload, 1) := by decide +kernel
theorem dX8_ends_86 : decode cX8_ends 86 = .ok (.iload_n 3, 1) := by decide +kernel
theorem dX8_ends_87 : decode cX8_ends 87 = .ok (.iadd, 1) := by decide +kernel
theorem dX8_ends_88 : decode cX8_ends 88 = .ok (.iastore, 1) := by decide +kernel
theorem dX8_ends_89 : decode cX8_ends 89 = .ok (.aload_n 0, 1) := by decide +kernel
theorem dX8_ends_90 : decode cX8_ends 90 = .ok (.getfield 7, 3) := by decide +kernel
theorem dX8_ends_93 : decode cX8_ends 93 = .ok (.bipush 94, 2) := by decide +kernel
theorem dX8_ends_95 : decode cX8_ends 95 = .ok (.iconst 4, 1) := by decide +kernel
theorem dX8_ends_96 : decode cX8_ends 96 = .ok (.iload_n 2, 1) := by decide +kernel
theorem dX8_ends_97 : decode cX8_ends 97 = .ok (.imul, 1) := by decide +kernel
theorem dX8_ends_98 : decode cX8_ends 98 = .ok (.iadd, 1) := by decide +kernel
theorem dX8_ends_99 : decode cX8_ends 99 = .ok (.iconst 3, 1) := by decide +kernel
theorem dX8_ends_100 : decode cX8_ends 100 = .ok (.iadd, 1) := by decide +kernel
theorem dX8_ends_101 : decode cX8_ends 101 = .ok (.dup2, 1) := by decide +kernel
theorem dX8_ends_102 : decode cX8_ends 102 = .ok (.iaload, 1) := by decide +kernel
theorem dX8_ends_103 : decode cX8_ends 103 = .ok (.iload_n 3, 1) := by decide +kernel
theorem dX8_ends_104 : decode cX8_ends 104 = .ok (.iconst 1, 1) := by decide +kernel
theorem dX8_ends_105 : decode cX8_ends 105 = .ok (.if_icmp .le 7, 3) := by decide +kernel
theorem dX8_ends_108 : decode cX8_ends 108 = .ok (.iconst 1, 1) := by decide +kernel
theorem dX8_ends_109 : decode cX8_ends 109 = .ok (.goto 4, 3) := by decide +kernel
theorem dX8_ends_112 : decode cX8_ends 112 = .ok (.iconst 0, 1) := by decide +kernel
theorem dX8_ends_113 : decode cX8_ends 113 = .ok (.iadd, 1) := by decide +kernel
theorem dX8_ends_114 : decode cX8_ends 114 = .ok (.iastore, 1) := by decide +kernel
theorem dX8_ends_115 : decode cX8_ends 115 = .ok (.iinc 2 1, 3) := by decide +kernel
theorem dX8_ends_118 : decode cX8_ends 118 = .ok (.goto (-69), 3) := by decide +kernel
theorem dX8_ends_121 : decode cX8_ends 121 = .ok (.aload_n 0, 1) := by decide +kernel
theorem dX8_ends_122 : decode cX8_ends 122 = .ok (.getfield 7, 3) := by decide +kernel
theorem dX8_ends_125 : decode cX8_ends 125 = .ok (.iconst 2, 1) := by decide +kernel
theorem dX8_ends_126 : decode cX8_ends 126 = .ok (.dup2, 1) := by decide +kernel
theorem dX8_ends_127 : decode cX8_ends 127 = .ok (.iaload, 1) := by decide +kernel
theorem dX8_ends_128 : decode cX8_ends 128 = .ok (.iconst 1, 1) := by decide +kernel
theorem dX8_ends_129 : decode cX8_ends 129 = .ok (.iadd, 1) := by decide +kernel
theorem dX8_ends_130 : decode cX8_ends 130 = .ok (.iastore, 1) := by decide +kernel
theorem dX8_ends_131 : decode cX8_ends 131 = .ok (.return_, 1) := by decide +kernel
theorem dX8_sum_0 : decode cX8_sum 0 = .ok (.iconst 0, 1) := by decide +kernel
theorem dX8_sum_1 : decode cX8_sum 1 = .ok (.istore_n 2, 1) := by decide +kernel
theorem dX8_sum_2 : decode cX8_sum 2 = .ok (.iconst 0, 1) := by decide +kernel
theorem dX8_sum_3 : decode cX8_sum 3 = .ok (.istore_n 3, 1) := by decide +kernel
theorem dX8_sum_4 : decode cX8_sum 4 = .ok (.iload_n 3, 1) := by decide +kernel
theorem dX8_sum_5 : decode cX8_sum 5 = .ok (.aload_n 0, 1) := by decide +kernel
theorem dX8_sum_6 : decode cX8_sum 6 = .ok (.getfield 7, 3) := by decide +kernel
theorem dX8_sum_9 : decode cX8_sum 9 = .ok (.iconst 0, 1) := by decide +kernel
theorem dX8_sum_10 : decode cX8_sum 10 = .ok (.iaload, 1) := by decide +kernel
theorem dX8_sum_11 : decode cX8_sum 11 = .ok (.if_icmp .ge 18, 3) := by decide +kernel
theorem dX8_sum_14 : decode cX8_sum 14 = .ok (.iload_n 2, 1) := by decide +kernel
theorem dX8_sum_15 : decode cX8_sum 15 = .ok (.aload_n 0, 1) := by decide +kernel
theorem dX8_sum_16 : decode cX8_sum 16 = .ok (.iload_n 3, 1) := by decide +kernel
theorem dX8_sum_17 : decode cX8_sum 17 = .ok (.iload_n 1, 1) := by decide +kernel
theorem dX8_sum_18 : decode cX8_sum 18 = .ok (.invokevirtual 36, 3) := by decide +kernel
theorem dX8_sum_21 : decode cX8_sum 21 = .ok (.iadd, 1) := by decide +kernel
theorem dX8_sum_22 : decode cX8_sum 22 = .ok (.istore_n 2, 1) := by decide +kernel
theorem dX8_sum_23 : decode cX8_sum 23 = .ok (.iinc 3 1, 3) := by decide +kernel
theorem dX8_sum_26 : decode cX8_sum 26 = .ok (.goto (-22), 3) := by decide +kernel
theorem dX8_sum_29 : decode cX8_sum 29 = .ok (.iload_n 2, 1) := by decide +kernel
theorem dX8_sum_30 : decode cX8_sum 30 = .ok (.ireturn, 1) := by decide +kernel
theorem dX8_endsFor_0 : decode cX8_endsFor 0 = .ok (.aload_n 0, 1) := by decide +kernel
theorem dX8_endsFor_1 : decode cX8_endsFor 1 = .ok (.bipush 8, 2) := by decide +kernel
theorem dX8_endsFor_3 : decode cX8_endsFor 3 = .ok (.invokevirtual 74, 3) := by decide +kernel
theorem dX8_endsFor_6 : decode cX8_endsFor 6 = .ok (.istore_n 2, 1) := by decide +kernel
theorem dX8_endsFor_7 : decode cX8_endsFor 7 = .ok (.iconst 0, 1) := by decide +kernel
theorem dX8_endsFor_8 : decode cX8_endsFor 8 = .ok (.istore_n 3, 1) := by decide +kernel
theorem dX8_endsFor_9 : decode cX8_endsFor 9 = .ok (.iload_n 3, 1) := by decide +kernel
theorem dX8_endsFor_10 : decode cX8_endsFor 10 = .ok (.iload_n 1, 1) := by decide +kernel
theorem dX8_endsFor_11 : decode cX8_endsFor 11 = .ok (.if_icmp .ge 13, 3) := by decide +kernel
theorem dX8_endsFor_14 : decode cX8_endsFor 14 = .ok (.aload_n 0, 1) := by decide +kernel
theorem dX8_endsFor_15 : decode cX8_endsFor 15 = .ok (.invokevirtual 77, 3) := by decide +kernel
theorem dX8_endsFor_18 : decode cX8_endsFor 18 = .ok (.iinc 3 1, 3) := by decide +kernel
theorem dX8_endsFor_21 : decode cX8_endsFor 21 = .ok (.goto (-12), 3) := by decide +kernel
theorem dX8_endsFor_24 : decode cX8_endsFor 24 = .ok (.aload_n 0, 1) := by decide +kernel
theorem dX8_endsFor_25 : decode cX8_endsFor 25 = .ok (.bipush 8, 2) := by decide +kernel
theorem dX8_endsFor_27 : decode cX8_endsFor 27 = .ok (.invokevirtual 74, 3) := by decide +kernel
theorem dX8_endsFor_30 : decode cX8_endsFor 30 = .ok (.iload_n 2, 1) := by decide +kernel
theorem dX8_endsFor_31 : decode cX8_endsFor 31 = .ok (.isub, 1) := by decide +kernel
theorem dX8_endsFor_32 : decode cX8_endsFor 32 = .ok (.ireturn, 1) := by decide +kernel
theorem dX8_isLaw_0 : decode cX8_isLaw 0 = .ok (.iload_n 0, 1) := by decide +kernel
theorem dX8_isLaw_1 : decode cX8_isLaw 1 = .ok (.iconst 2, 1) := by decide +kernel
theorem dX8_isLaw_2 : decode cX8_isLaw 2 = .ok (.if_icmp .ne 44, 3) := by decide +kernel
theorem dX8_isLaw_5 : decode cX8_isLaw 5 = .ok (.iload_n 1, 1) := by decide +kernel
theorem dX8_isLaw_6 : decode cX8_isLaw 6 = .ok (.iconst 1, 1) := by decide +kernel
theorem dX8_isLaw_7 : decode cX8_isLaw 7 = .ok (.bipush 50, 2) := by decide +kernel
theorem dX8_isLaw_9 : decode cX8_isLaw 9 = .ok (.invokestatic 80, 3) := by decide +kernel
theorem dX8_isLaw_12 : decode cX8_isLaw 12 = .ok (.ifCond .eq 32, 3) := by decide +kernel
theorem dX8_isLaw_15 : decode cX8_isLaw 15 = .ok (.iload_n 2, 1) := by decide +kernel
theorem dX8_isLaw_16 : decode cX8_isLaw 16 = .ok (.iconst 1, 1) := by decide +kernel
theorem dX8_isLaw_17 : decode cX8_isLaw 17 = .ok (.bipush 50, 2) := by decide +kernel
theorem dX8_isLaw_19 : decode cX8_isLaw 19 = .ok (.invokestatic 80, 3) := by decide +kernel
theorem dX8_isLaw_22 : decode cX8_isLaw 22 = .ok (.ifCond .eq 22, 3) := by decide +kernel
theorem dX8_isLaw_25 : decode cX8_isLaw 25 = .ok (.iload_n 3, 1) := by decide +kernel
theorem dX8_isLaw_26 : decode cX8_isLaw 26 = .ok (.iconst 1, 1) := by decide +kernel
theorem dX8_isLaw_27 : decode cX8_isLaw 27 = .ok (.bipush 50, 2) := by decide +kernel
theorem dX8_isLaw_29 : decode cX8_isLaw 29 = .ok (.invokestatic 80, 3) := by decide +kernel
theorem dX8_isLaw_32 : decode cX8_isLaw 32 = .ok (.ifCond .eq 12, 3) := by decide +kernel
theorem dX8_isLaw_35 : decode cX8_isLaw 35 = .ok (.iload 4, 2) := by decide +kernel
theorem dX8_isLaw_37 : decode cX8_isLaw 37 = .ok (.ifCond .ne 7, 3) := by decide +kernel
theorem dX8_isLaw_40 : decode cX8_isLaw 40 = .ok (.iconst 1, 1) := by decide +kernel
theorem dX8_isLaw_41 : decode cX8_isLaw 41 = .ok (.goto 4, 3) := by decide +kernel
theorem dX8_isLaw_44 : decode cX8_isLaw 44 = .ok (.iconst 0, 1) := by decide +kernel
theorem dX8_isLaw_45 : decode cX8_isLaw 45 = .ok (.ireturn, 1) := by decide +kernel
theorem dX8_isLaw_46 : decode cX8_isLaw 46 = .ok (.iload_n 0, 1) := by decide +kernel
theorem dX8_isLaw_47 : decode cX8_isLaw 47 = .ok (.iconst 0, 1) := by decide +kernel
theorem dX8_isLaw_48 : decode cX8_isLaw 48 = .ok (.iconst 1, 1) := by decide +kernel
theorem dX8_isLaw_49 : decode cX8_isLaw 49 = .ok (.invokestatic 80, 3) := by decide +kernel
theorem dX8_isLaw_52 : decode cX8_isLaw 52 = .ok (.ifCond .eq 48, 3) := by decide +kernel
theorem dX8_isLaw_55 : decode cX8_isLaw 55 = .ok (.iload_n 1, 1) := by decide +kernel
theorem dX8_isLaw_56 : decode cX8_isLaw 56 = .ok (.iconst 1, 1) := by decide +kernel
theorem dX8_isLaw_57 : decode cX8_isLaw 57 = .ok (.bipush 50, 2) := by decide +kernel
theorem dX8_isLaw_59 : decode cX8_isLaw 59 = .ok (.invokestatic 80, 3) := by decide +kernel
theorem dX8_isLaw_62 : decode cX8_isLaw 62 = .ok (.ifCond .eq 38, 3) := by decide +kernel
theorem dX8_isLaw_65 : decode cX8_isLaw 65 = .ok (.iload_n 2, 1) := by decide +kernel
theorem dX8_isLaw_66 : decode cX8_isLaw 66 = .ok (.iconst 0, 1) := by decide +kernel
theorem dX8_isLaw_67 : decode cX8_isLaw 67 = .ok (.bipush 50, 2) := by decide +kernel
theorem dX8_isLaw_69 : decode cX8_isLaw 69 = .ok (.invokestatic 80, 3) := by decide +kernel
theorem dX8_isLaw_72 : decode cX8_isLaw 72 = .ok (.ifCond .eq 28, 3) := by decide +kernel
theorem dX8_isLaw_75 : decode cX8_isLaw 75 = .ok (.iload_n 3, 1) := by decide +kernel
theorem dX8_isLaw_76 : decode cX8_isLaw 76 = .ok (.iconst 0, 1) := by decide +kernel
theorem dX8_isLaw_77 : decode cX8_isLaw 77 = .ok (.bipush 50, 2) := by decide +kernel
theorem dX8_isLaw_79 : decode cX8_isLaw 79 = .ok (.invokestatic 80, 3) := by decide +kernel
theorem dX8_isLaw_82 : decode cX8_isLaw 82 = .ok (.ifCond .eq 18, 3) := by decide +kernel
theorem dX8_isLaw_85 : decode cX8_isLaw 85 = .ok (.iload 4, 2) := by decide +kernel
theorem dX8_isLaw_87 : decode cX8_isLaw 87 = .ok (.iconst 0, 1) := by decide +kernel
theorem dX8_isLaw_88 : decode cX8_isLaw 88 = .ok (.bipush 50, 2) := by decide +kernel
theorem dX8_isLaw_90 : decode cX8_isLaw 90 = .ok (.invokestatic 80, 3) := by decide +kernel
theorem dX8_isLaw_93 : decode cX8_isLaw 93 = .ok (.ifCond .eq 7, 3) := by decide +kernel
theorem dX8_isLaw_96 : decode cX8_isLaw 96 = .ok (.iconst 1, 1) := by decide +kernel
theorem dX8_isLaw_97 : decode cX8_isLaw 97 = .ok (.goto 4, 3) := by decide +kernel
theorem dX8_isLaw_100 : decode cX8_isLaw 100 = .ok (.iconst 0, 1) := by decide +kernel
theorem dX8_isLaw_101 : decode cX8_isLaw 101 = .ok (.istore 5, 2) := by decide +kernel
theorem dX8_isLaw_103 : decode cX8_isLaw 103 = .ok (.iload 5, 2) := by decide +kernel
theorem dX8_isLaw_105 : decode cX8_isLaw 105 = .ok (.ifCond .eq 24, 3) := by decide +kernel
theorem dX8_isLaw_108 : decode cX8_isLaw 108 = .ok (.iload_n 2, 1) := by decide +kernel
theorem dX8_isLaw_109 : decode cX8_isLaw 109 = .ok (.ifCond .gt 7, 3) := by decide +kernel
theorem dX8_isLaw_112 : decode cX8_isLaw 112 = .ok (.iload_n 3, 1) := by decide +kernel
theorem dX8_isLaw_113 : decode cX8_isLaw 113 = .ok (.ifCond .ne 16, 3) := by decide +kernel
theorem dX8_isLaw_116 : decode cX8_isLaw 116 = .ok (.iload_n 3, 1) := by decide +kernel
theorem dX8_isLaw_117 : decode cX8_isLaw 117 = .ok (.ifCond .gt 8, 3) := by decide +kernel
theorem dX8_isLaw_120 : decode cX8_isLaw 120 = .ok (.iload 4, 2) := by decide +kernel
theorem dX8_isLaw_122 : decode cX8_isLaw 122 = .ok (.ifCond .ne 7, 3) := by decide +kernel
theorem dX8_isLaw_125 : decode cX8_isLaw 125 = .ok (.iconst 1, 1) := by decide +kernel
theorem dX8_isLaw_126 : decode cX8_isLaw 126 = .ok (.goto 4, 3) := by decide +kernel
theorem dX8_isLaw_129 : decode cX8_isLaw 129 = .ok (.iconst 0, 1) := by decide +kernel
theorem dX8_isLaw_130 : decode cX8_isLaw 130 = .ok (.ireturn, 1) := by decide +kernel
theorem dX8_clock_0 : decode cX8_clock 0 = .ok (.iload_n 1, 1) := by decide +kernel
theorem dX8_clock_1 : decode cX8_clock 1 = .ok (.iload_n 2, 1) := by decide +kernel
theorem dX8_clock_2 : decode cX8_clock 2 = .ok (.iload_n 3, 1) := by decide +kernel
theorem dX8_clock_3 : decode cX8_clock 3 = .ok (.iload 4, 2) := by decide +kernel
theorem dX8_clock_5 : decode cX8_clock 5 = .ok (.iload 5, 2) := by decide +kernel
theorem dX8_clock_7 : decode cX8_clock 7 = .ok (.invokestatic 84, 3) := by decide +kernel
theorem dX8_clock_10 : decode cX8_clock 10 = .ok (.ifCond .ne 6, 3) := by decide +kernel
theorem dX8_clock_13 : decode cX8_clock 13 = .ok (.ldc 88, 2) := by decide +kernel
theorem dX8_clock_15 : decode cX8_clock 15 = .ok (.ireturn, 1) := by decide +kernel
theorem dX8_clock_16 : decode cX8_clock 16 = .ok (.aload_n 0, 1) := by decide +kernel
theorem dX8_clock_17 : decode cX8_clock 17 = .ok (.getfield 7, 3) := by decide +kernel
theorem dX8_clock_20 : decode cX8_clock 20 = .ok (.iconst 0, 1) := by decide +kernel
theorem dX8_clock_21 : decode cX8_clock 21 = .ok (.iaload, 1) := by decide +kernel
theorem dX8_clock_22 : decode cX8_clock 22 = .ok (.istore 6, 2) := by decide +kernel
theorem dX8_clock_24 : decode cX8_clock 24 = .ok (.iload 6, 2) := by decide +kernel
theorem dX8_clock_26 : decode cX8_clock 26 = .ok (.bipush 6, 2) := by decide +kernel
theorem dX8_clock_28 : decode cX8_clock 28 = .ok (.if_icmp .ne 6, 3) := by decide +kernel
theorem dX8_clock_31 : decode cX8_clock 31 = .ok (.ldc 89, 2) := by decide +kernel
theorem dX8_clock_33 : decode cX8_clock 33 = .ok (.ireturn, 1) := by decide +kernel
theorem dX8_clock_34 : decode cX8_clock 34 = .ok (.aload_n 0, 1) := by decide +kernel
theorem dX8_clock_35 : decode cX8_clock 35 = .ok (.invokevirtual 90, 3) := by decide +kernel
theorem dX8_clock_38 : decode cX8_clock 38 = .ok (.iconst 0, 1) := by decide +kernel
theorem dX8_clock_39 : decode cX8_clock 39 = .ok (.istore 7, 2) := by decide +kernel
theorem dX8_clock_41 : decode cX8_clock 41 = .ok (.iload 7, 2) := by decide +kernel
theorem dX8_clock_43 : decode cX8_clock 43 = .ok (.bipush 15, 2) := by decide +kernel
theorem dX8_clock_45 : decode cX8_clock 45 = .ok (.if_icmp .ge 18, 3) := by decide +kernel
theorem dX8_clock_48 : decode cX8_clock 48 = .ok (.aload_n 0, 1) := by decide +kernel
theorem dX8_clock_49 : decode cX8_clock 49 = .ok (.iload 6, 2) := by decide +kernel
theorem dX8_clock_51 : decode cX8_clock 51 = .ok (.iload 7, 2) := by decide +kernel
theorem dX8_clock_53 : decode cX8_clock 53 = .ok (.iconst 0, 1) := by decide +kernel
theorem dX8_clock_54 : decode cX8_clock 54 = .ok (.invokevirtual 47, 3) := by decide +kernel
theorem dX8_clock_57 : decode cX8_clock 57 = .ok (.iinc 7 1, 3) := by decide +kernel
theorem dX8_clock_60 : decode cX8_clock 60 = .ok (.goto (-19), 3) := by decide +kernel
theorem dX8_clock_63 : decode cX8_clock 63 = .ok (.aload_n 0, 1) := by decide +kernel
theorem dX8_clock_64 : decode cX8_clock 64 = .ok (.iload 6, 2) := by decide +kernel
theorem dX8_clock_66 : decode cX8_clock 66 = .ok (.iconst 0, 1) := by decide +kernel
theorem dX8_clock_67 : decode cX8_clock 67 = .ok (.iload_n 1, 1) := by decide +kernel
theorem dX8_clock_68 : decode cX8_clock 68 = .ok (.invokevirtual 47, 3) := by decide +kernel
theorem dX8_clock_71 : decode cX8_clock 71 = .ok (.aload_n 0, 1) := by decide +kernel
theorem dX8_clock_72 : decode cX8_clock 72 = .ok (.iload 6, 2) := by decide +kernel
theorem dX8_clock_74 : decode cX8_clock 74 = .ok (.iconst 1, 1) := by decide +kernel
theorem dX8_clock_75 : decode cX8_clock 75 = .ok (.iload_n 2, 1) := by decide +kernel
theorem dX8_clock_76 : decode cX8_clock 76 = .ok (.invokevirtual 47, 3) := by decide +kernel
theorem dX8_clock_79 : decode cX8_clock 79 = .ok (.aload_n 0, 1) := by decide +kernel
theorem dX8_clock_80 : decode cX8_clock 80 = .ok (.iload 6, 2) := by decide +kernel
theorem dX8_clock_82 : decode cX8_clock 82 = .ok (.iconst 2, 1) := by decide +kernel
theorem dX8_clock_83 : decode cX8_clock 83 = .ok (.iload_n 3, 1) := by decide +kernel
theorem dX8_clock_84 : decode cX8_clock 84 = .ok (.invokevirtual 47, 3) := by decide +kernel
theorem dX8_clock_87 : decode cX8_clock 87 = .ok (.aload_n 0, 1) := by decide +kernel
theorem dX8_clock_88 : decode cX8_clock 88 = .ok (.iload 6, 2) := by decide +kernel
theorem dX8_clock_90 : decode cX8_clock 90 = .ok (.iconst 3, 1) := by decide +kernel
theorem dX8_clock_91 : decode cX8_clock 91 = .ok (.iload 4, 2) := by decide +kernel
theorem dX8_clock_93 : decode cX8_clock 93 = .ok (.invokevirtual 47, 3) := by decide +kernel
theorem dX8_clock_96 : decode cX8_clock 96 = .ok (.aload_n 0, 1) := by decide +kernel
theorem dX8_clock_97 : decode cX8_clock 97 = .ok (.iload 6, 2) := by decide +kernel
theorem dX8_clock_99 : decode cX8_clock 99 = .ok (.iconst 4, 1) := by decide +kernel
theorem dX8_clock_100 : decode cX8_clock 100 = .ok (.iload 5, 2) := by decide +kernel
theorem dX8_clock_102 : decode cX8_clock 102 = .ok (.invokevirtual 47, 3) := by decide +kernel
theorem dX8_clock_105 : decode cX8_clock 105 = .ok (.aload_n 0, 1) := by decide +kernel
theorem dX8_clock_106 : decode cX8_clock 106 = .ok (.getfield 7, 3) := by decide +kernel
theorem dX8_clock_109 : decode cX8_clock 109 = .ok (.iconst 0, 1) := by decide +kernel
theorem dX8_clock_110 : decode cX8_clock 110 = .ok (.dup2, 1) := by decide +kernel
theorem dX8_clock_111 : decode cX8_clock 111 = .ok (.iaload, 1) := by decide +kernel
theorem dX8_clock_112 : decode cX8_clock 112 = .ok (.iconst 1, 1) := by decide +kernel
theorem dX8_clock_113 : decode cX8_clock 113 = .ok (.iadd, 1) := by decide +kernel
theorem dX8_clock_114 : decode cX8_clock 114 = .ok (.iastore, 1) := by decide +kernel
theorem dX8_clock_115 : decode cX8_clock 115 = .ok (.aload_n 0, 1) := by decide +kernel
theorem dX8_clock_116 : decode cX8_clock 116 = .ok (.iload 6, 2) := by decide +kernel
theorem dX8_clock_118 : decode cX8_clock 118 = .ok (.iconst 0, 1) := by decide +kernel
theorem dX8_clock_119 : decode cX8_clock 119 = .ok (.invokevirtual 57, 3) := by decide +kernel
theorem dX8_clock_122 : decode cX8_clock 122 = .ok (.iload 6, 2) := by decide +kernel
theorem dX8_clock_124 : decode cX8_clock 124 = .ok (.ireturn, 1) := by decide +kernel
theorem dX8_wind_0 : decode cX8_wind 0 = .ok (.aload_n 0, 1) := by decide +kernel
theorem dX8_wind_1 : decode cX8_wind 1 = .ok (.iload_n 1, 1) := by decide +kernel
theorem dX8_wind_2 : decode cX8_wind 2 = .ok (.invokevirtual 93, 3) := by decide +kernel
theorem dX8_wind_5 : decode cX8_wind 5 = .ok (.ifCond .ne 6, 3) := by decide +kernel
theorem dX8_wind_8 : decode cX8_wind 8 = .ok (.ldc 88, 2) := by decide +kernel
theorem dX8_wind_10 : decode cX8_wind 10 = .ok (.ireturn, 1) := by decide +kernel
theorem dX8_wind_11 : decode cX8_wind 11 = .ok (.aload_n 0, 1) := by decide +kernel
theorem dX8_wind_12 : decode cX8_wind 12 = .ok (.invokevirtual 90, 3) := by decide +kernel
theorem dX8_wind_15 : decode cX8_wind 15 = .ok (.aload_n 0, 1) := by decide +kernel
theorem dX8_wind_16 : decode cX8_wind 16 = .ok (.iload_n 1, 1) := by decide +kernel
theorem dX8_wind_17 : decode cX8_wind 17 = .ok (.aload_n 0, 1) := by decide +kernel
theorem dX8_wind_18 : decode cX8_wind 18 = .ok (.iload_n 1, 1) := by decide +kernel
theorem dX8_wind_19 : decode cX8_wind 19 = .ok (.iconst 5, 1) := by decide +kernel
theorem dX8_wind_20 : decode cX8_wind 20 = .ok (.invokevirtual 36, 3) := by decide +kernel
theorem dX8_wind_23 : decode cX8_wind 23 = .ok (.iconst 1, 1) := by decide +kernel
theorem dX8_wind_24 : decode cX8_wind 24 = .ok (.iadd, 1) := by decide +kernel
theorem dX8_wind_25 : decode cX8_wind 25 = .ok (.invokevirtual 57, 3) := by decide +kernel
theorem dX8_wind_28 : decode cX8_wind 28 = .ok (.aload_n 0, 1) := by decide +kernel
theorem dX8_wind_29 : decode cX8_wind 29 = .ok (.iload_n 1, 1) := by decide +kernel
theorem dX8_wind_30 : decode cX8_wind 30 = .ok (.bipush 14, 2) := by decide +kernel
theorem dX8_wind_32 : decode cX8_wind 32 = .ok (.iconst 1, 1) := by decide +kernel
theorem dX8_wind_33 : decode cX8_wind 33 = .ok (.invokevirtual 54, 3) := by decide +kernel
theorem dX8_wind_36 : decode cX8_wind 36 = .ok (.aload_n 0, 1) := by decide +kernel
theorem dX8_wind_37 : decode cX8_wind 37 = .ok (.iload_n 1, 1) := by decide +kernel
theorem dX8_wind_38 : decode cX8_wind 38 = .ok (.bipush 6, 2) := by decide +kernel
theorem dX8_wind_40 : decode cX8_wind 40 = .ok (.invokevirtual 36, 3) := by decide +kernel
theorem dX8_wind_43 : decode cX8_wind 43 = .ok (.ireturn, 1) := by decide +kernel
theorem dX8_tick_0 : decode cX8_tick 0 = .ok (.iload_n 1, 1) := by decide +kernel
theorem dX8_tick_1 : decode cX8_tick 1 = .ok (.iconst 1, 1) := by decide +kernel
theorem dX8_tick_2 : decode cX8_tick 2 = .ok (.sipush 200, 3) := by decide +kernel
theorem dX8_tick_5 : decode cX8_tick 5 = .ok (.invokestatic 80, 3) := by decide +kernel
theorem dX8_tick_8 : decode cX8_tick 8 = .ok (.ifCond .ne 6, 3) := by decide +kernel
theorem dX8_tick_11 : decode cX8_tick 11 = .ok (.ldc 88, 2) := by decide +kernel
theorem dX8_tick_13 : decode cX8_tick 13 = .ok (.ireturn, 1) := by decide +kernel
theorem dX8_tick_14 : decode cX8_tick 14 = .ok (.aload_n 0, 1) := by decide +kernel
theorem dX8_tick_15 : decode cX8_tick 15 = .ok (.getfield 7, 3) := by decide +kernel
theorem dX8_tick_18 : decode cX8_tick 18 = .ok (.iconst 2, 1) := by decide +kernel
theorem dX8_tick_19 : decode cX8_tick 19 = .ok (.iaload, 1) := by decide +kernel
theorem dX8_tick_20 : decode cX8_tick 20 = .ok (.iload_n 1, 1) := by decide +kernel
theorem dX8_tick_21 : decode cX8_tick 21 = .ok (.iadd, 1) := by decide +kernel
theorem dX8_tick_22 : decode cX8_tick 22 = .ok (.ldc 97, 2) := by decide +kernel
theorem dX8_tick_24 : decode cX8_tick 24 = .ok (.if_icmp .le 6, 3) := by decide +kernel
theorem dX8_tick_27 : decode cX8_tick 27 = .ok (.ldc 89, 2) := by decide +kernel
theorem dX8_tick_29 : decode cX8_tick 29 = .ok (.ireturn, 1) := by decide +kernel
theorem dX8_tick_30 : decode cX8_tick 30 = .ok (.aload_n 0, 1) := by decide +kernel
theorem dX8_tick_31 : decode cX8_tick 31 = .ok (.invokevirtual 90, 3) := by decide +kernel
theorem dX8_tick_34 : decode cX8_tick 34 = .ok (.aload_n 0, 1) := by decide +kernel
theorem dX8_tick_35 : decode cX8_tick 35 = .ok (.iload_n 1, 1) := by decide +kernel
theorem dX8_tick_36 : decode cX8_tick 36 = .ok (.invokevirtual 98, 3) := by decide +kernel
theorem dX8_tick_39 : decode cX8_tick 39 = .ok (.ireturn, 1) := by decide +kernel
theorem dX8_passenger_0 : decode cX8_passenger 0 = .ok (.aload_n 0, 1) := by decide +kernel
theorem dX8_passenger_1 : decode cX8_passenger 1 = .ok (.iload_n 1, 1) := by decide +kernel
theorem dX8_passenger_2 : decode cX8_passenger 2 = .ok (.invokevirtual 93, 3) := by decide +kernel
theorem dX8_passenger_5 : decode cX8_passenger 5 = .ok (.ifCond .ne 6, 3) := by decide +kernel
theorem dX8_passenger_8 : decode cX8_passenger 8 = .ok (.ldc 88, 2) := by decide +kernel
theorem dX8_passenger_10 : decode cX8_passenger 10 = .ok (.ireturn, 1) := by decide +kernel
theorem dX8_passenger_11 : decode cX8_passenger 11 = .ok (.aload_n 0, 1) := by decide +kernel
theorem dX8_passenger_12 : decode cX8_passenger 12 = .ok (.invokevirtual 90, 3) := by decide +kernel
theorem dX8_passenger_15 : decode cX8_passenger 15 = .ok (.aload_n 0, 1) := by decide +kernel
theorem dX8_passenger_16 : decode cX8_passenger 16 = .ok (.iload_n 1, 1) := by decide +kernel
theorem dX8_passenger_17 : decode cX8_passenger 17 = .ok (.bipush 12, 2) := by decide +kernel
theorem dX8_passenger_19 : decode cX8_passenger 19 = .ok (.iconst 1, 1) := by decide +kernel
theorem dX8_passenger_20 : decode cX8_passenger 20 = .ok (.invokevirtual 54, 3) := by decide +kernel
theorem dX8_passenger_23 : decode cX8_passenger 23 = .ok (.aload_n 0, 1) := by decide +kernel
theorem dX8_passenger_24 : decode cX8_passenger 24 = .ok (.iload_n 1, 1) := by decide +kernel
theorem dX8_passenger_25 : decode cX8_passenger 25 = .ok (.bipush 13, 2) := by decide +kernel
theorem dX8_passenger_27 : decode cX8_passenger 27 = .ok (.aload_n 0, 1) := by decide +kernel
theorem dX8_passenger_28 : decode cX8_passenger 28 = .ok (.iload_n 1, 1) := by decide +kernel
theorem dX8_passenger_29 : decode cX8_passenger 29 = .ok (.invokevirtual 61, 3) := by decide +kernel
theorem dX8_passenger_32 : decode cX8_passenger 32 = .ok (.invokevirtual 54, 3) := by decide +kernel
theorem dX8_passenger_35 : decode cX8_passenger 35 = .ok (.aload_n 0, 1) := by decide +kernel
theorem dX8_passenger_36 : decode cX8_passenger 36 = .ok (.iload_n 1, 1) := by decide +kernel
theorem dX8_passenger_37 : decode cX8_passenger 37 = .ok (.invokevirtual 61, 3) := by decide +kernel
theorem dX8_passenger_40 : decode cX8_passenger 40 = .ok (.ireturn, 1) := by decide +kernel
theorem dX8_group_0 : decode cX8_group 0 = .ok (.iload_n 1, 1) := by decide +kernel
theorem dX8_group_1 : decode cX8_group 1 = .ok (.iconst 0, 1) := by decide +kernel
theorem dX8_group_2 : decode cX8_group 2 = .ok (.iconst 2, 1) := by decide +kernel
theorem dX8_group_3 : decode cX8_group 3 = .ok (.invokestatic 80, 3) := by decide +kernel
theorem dX8_group_6 : decode cX8_group 6 = .ok (.ifCond .ne 6, 3) := by decide +kernel
theorem dX8_group_9 : decode cX8_group 9 = .ok (.ldc 88, 2) := by decide +kernel
theorem dX8_group_11 : decode cX8_group 11 = .ok (.ireturn, 1) := by decide +kernel
theorem dX8_group_12 : decode cX8_group 12 = .ok (.aload_n 0, 1) := by decide +kernel
theorem dX8_group_13 : decode cX8_group 13 = .ok (.getfield 7, 3) := by decide +kernel
theorem dX8_group_16 : decode cX8_group 16 = .ok (.iconst 1, 1) := by decide +kernel
theorem dX8_group_17 : decode cX8_group 17 = .ok (.iaload, 1) := by decide +kernel
theorem dX8_group_18 : decode cX8_group 18 = .ok (.istore_n 2, 1) := by decide +kernel
theorem dX8_group_19 : decode cX8_group 19 = .ok (.iload_n 2, 1) := by decide +kernel
theorem dX8_group_20 : decode cX8_group 20 = .ok (.iconst 4, 1) := by decide +kernel
theorem dX8_group_21 : decode cX8_group 21 = .ok (.if_icmp .ne 6, 3) := by decide +kernel
theorem dX8_group_24 : decode cX8_group 24 = .ok (.ldc 89, 2) := by decide +kernel
theorem dX8_group_26 : decode cX8_group 26 = .ok (.ireturn, 1) := by decide +kernel
theorem dX8_group_27 : decode cX8_group 27 = .ok (.aload_n 0, 1) := by decide +kernel
theorem dX8_group_28 : decode cX8_group 28 = .ok (.invokevirtual 90, 3) := by decide +kernel
theorem dX8_group_31 : decode cX8_group 31 = .ok (.aload_n 0, 1) := by decide +kernel
theorem dX8_group_32 : decode cX8_group 32 = .ok (.getfield 7, 3) := by decide +kernel
theorem dX8_group_35 : decode cX8_group 35 = .ok (.bipush 94, 2) := by decide +kernel
theorem dX8_group_37 : decode cX8_group 37 = .ok (.iconst 4, 1) := by decide +kernel
theorem dX8_group_38 : decode cX8_group 38 = .ok (.iload_n 2, 1) := by decide +kernel
theorem dX8_group_39 : decode cX8_group 39 = .ok (.imul, 1) := by decide +kernel
theorem dX8_group_40 : decode cX8_group 40 = .ok (.iadd, 1) := by decide +kernel
theorem dX8_group_41 : decode cX8_group 41 = .ok (.iload_n 1, 1) := by decide +kernel
theorem dX8_group_42 : decode cX8_group 42 = .ok (.iastore, 1) := by decide +kernel
theorem dX8_group_43 : decode cX8_group 43 = .ok (.iconst 1, 1) := by decide +kernel
theorem dX8_group_44 : decode cX8_group 44 = .ok (.istore_n 3, 1) := by decide +kernel
theorem dX8_group_45 : decode cX8_group 45 = .ok (.iload_n 3, 1) := by decide +kernel
theorem dX8_group_46 : decode cX8_group 46 = .ok (.iconst 4, 1) := by decide +kernel
theorem dX8_group_47 : decode cX8_group 47 = .ok (.if_icmp .ge 23, 3) := by decide +kernel
theorem dX8_group_50 : decode cX8_group 50 = .ok (.aload_n 0, 1) := by decide +kernel
theorem dX8_group_51 : decode cX8_group 51 = .ok (.getfield 7, 3) := by decide +kernel
theorem dX8_group_54 : decode cX8_group 54 = .ok (.bipush 94, 2) := by decide +kernel
theorem dX8_group_56 : decode cX8_group 56 = .ok (.iconst 4, 1) := by decide +kernel
theorem dX8_group_57 : decode cX8_group 57 = .ok (.iload_n 2, 1) := by decide +kernel
theorem dX8_group_58 : decode cX8_group 58 = .ok (.imul, 1) := by decide +kernel
theorem dX8_group_59 : decode cX8_group 59 = .ok (.iadd, 1) := by decide +kernel
theorem dX8_group_60 : decode cX8_group 60 = .ok (.iload_n 3, 1) := by decide +kernel
theorem dX8_group_61 : decode cX8_group 61 = .ok (.iadd, 1) := by decide +kernel
theorem dX8_group_62 : decode cX8_group 62 = .ok (.iconst 0, 1) := by decide +kernel
theorem dX8_group_63 : decode cX8_group 63 = .ok (.iastore, 1) := by decide +kernel
theorem dX8_group_64 : decode cX8_group 64 = .ok (.iinc 3 1, 3) := by decide +kernel
theorem dX8_group_67 : decode cX8_group 67 = .ok (.goto (-22), 3) := by decide +kernel
theorem dX8_group_70 : decode cX8_group 70 = .ok (.aload_n 0, 1) := by decide +kernel
theorem dX8_group_71 : decode cX8_group 71 = .ok (.getfield 7, 3) := by decide +kernel
theorem dX8_group_74 : decode cX8_group 74 = .ok (.iconst 1, 1) := by decide +kernel
theorem dX8_group_75 : decode cX8_group 75 = .ok (.dup2, 1) := by decide +kernel
theorem dX8_group_76 : decode cX8_group 76 = .ok (.iaload, 1) := by decide +kernel
theorem dX8_group_77 : decode cX8_group 77 = .ok (.iconst 1, 1) := by decide +kernel
theorem dX8_group_78 : decode cX8_group 78 = .ok (.iadd, 1) := by decide +kernel
theorem dX8_group_79 : decode cX8_group 79 = .ok (.iastore, 1) := by decide +kernel
theorem dX8_group_80 : decode cX8_group 80 = .ok (.iload_n 2, 1) := by decide +kernel
theorem dX8_group_81 : decode cX8_group 81 = .ok (.ireturn, 1) := by decide +kernel
theorem dX8_isIn_0 : decode cX8_isIn 0 = .ok (.aload_n 0, 1) := by decide +kernel
theorem dX8_isIn_1 : decode cX8_isIn 1 = .ok (.iload_n 1, 1) := by decide +kernel
theorem dX8_isIn_2 : decode cX8_isIn 2 = .ok (.iconst 1, 1) := by decide +kernel
theorem dX8_isIn_3 : decode cX8_isIn 3 = .ok (.invokevirtual 68, 3) := by decide +kernel
theorem dX8_isIn_6 : decode cX8_isIn 6 = .ok (.iload_n 2, 1) := by decide +kernel
theorem dX8_isIn_7 : decode cX8_isIn 7 = .ok (.ishr, 1) := by decide +kernel
theorem dX8_isIn_8 : decode cX8_isIn 8 = .ok (.iconst 1, 1) := by decide +kernel
theorem dX8_isIn_9 : decode cX8_isIn 9 = .ok (.iand, 1) := by decide +kernel
theorem dX8_isIn_10 : decode cX8_isIn 10 = .ok (.iconst 1, 1) := by decide +kernel
theorem dX8_isIn_11 : decode cX8_isIn 11 = .ok (.if_icmp .ne 7, 3) := by decide +kernel
theorem dX8_isIn_14 : decode cX8_isIn 14 = .ok (.iconst 1, 1) := by decide +kernel
theorem dX8_isIn_15 : decode cX8_isIn 15 = .ok (.goto 4, 3) := by decide +kernel
theorem dX8_isIn_18 : decode cX8_isIn 18 = .ok (.iconst 0, 1) := by decide +kernel
theorem dX8_isIn_19 : decode cX8_isIn 19 = .ok (.ireturn, 1) := by decide +kernel
theorem dX8_join_0 : decode cX8_join 0 = .ok (.aload_n 0, 1) := by decide +kernel
theorem dX8_join_1 : decode cX8_join 1 = .ok (.iload_n 1, 1) := by decide +kernel
theorem dX8_join_2 : decode cX8_join 2 = .ok (.invokevirtual 101, 3) := by decide +kernel
theorem dX8_join_5 : decode cX8_join 5 = .ok (.ifCond .eq 11, 3) := by decide +kernel
theorem dX8_join_8 : decode cX8_join 8 = .ok (.aload_n 0, 1) := by decide +kernel
theorem dX8_join_9 : decode cX8_join 9 = .ok (.iload_n 2, 1) := by decide +kernel
theorem dX8_join_10 : decode cX8_join 10 = .ok (.invokevirtual 93, 3) := by decide +kernel
theorem dX8_join_13 : decode cX8_join 13 = .ok (.ifCond .ne 6, 3) := by decide +kernel
theorem dX8_join_16 : decode cX8_join 16 = .ok (.ldc 88, 2) := by decide +kernel
theorem dX8_join_18 : decode cX8_join 18 = .ok (.ireturn, 1) := by decide +kernel
theorem dX8_join_19 : decode cX8_join 19 = .ok (.aload_n 0, 1) := by decide +kernel
theorem dX8_join_20 : decode cX8_join 20 = .ok (.iload_n 1, 1) := by decide +kernel
theorem dX8_join_21 : decode cX8_join 21 = .ok (.iconst 0, 1) := by decide +kernel
theorem dX8_join_22 : decode cX8_join 22 = .ok (.invokevirtual 68, 3) := by decide +kernel
theorem dX8_join_25 : decode cX8_join 25 = .ok (.aload_n 0, 1) := by decide +kernel
theorem dX8_join_26 : decode cX8_join 26 = .ok (.iload_n 2, 1) := by decide +kernel
theorem dX8_join_27 : decode cX8_join 27 = .ok (.iconst 0, 1) := by decide +kernel
theorem dX8_join_28 : decode cX8_join 28 = .ok (.invokevirtual 36, 3) := by decide +kernel
theorem dX8_join_31 : decode cX8_join 31 = .ok (.if_icmp .ne 12, 3) := by decide +kernel
theorem dX8_join_34 : decode cX8_join 34 = .ok (.aload_n 0, 1) := by decide +kernel
theorem dX8_join_35 : decode cX8_join 35 = .ok (.iload_n 1, 1) := by decide +kernel
theorem dX8_join_36 : decode cX8_join 36 = .ok (.iload_n 2, 1) := by decide +kernel
theorem dX8_join_37 : decode cX8_join 37 = .ok (.invokevirtual 104, 3) := by decide +kernel
theorem dX8_join_40 : decode cX8_join 40 = .ok (.ifCond .eq 6, 3) := by decide +kernel
theorem dX8_join_43 : decode cX8_join 43 = .ok (.ldc 108, 2) := by decide +kernel
theorem dX8_join_45 : decode cX8_join 45 = .ok (.ireturn, 1) := by decide +kernel
theorem dX8_join_46 : decode cX8_join 46 = .ok (.aload_n 0, 1) := by decide +kernel
theorem dX8_join_47 : decode cX8_join 47 = .ok (.aload_n 0, 1) := by decide +kernel
theorem dX8_join_48 : decode cX8_join 48 = .ok (.iload_n 1, 1) := by decide +kernel
theorem dX8_join_49 : decode cX8_join 49 = .ok (.iconst 1, 1) := by decide +kernel
theorem dX8_join_50 : decode cX8_join 50 = .ok (.invokevirtual 68, 3) := by decide +kernel
theorem dX8_join_53 : decode cX8_join 53 = .ok (.invokevirtual 71, 3) := by decide +kernel
theorem dX8_join_56 : decode cX8_join 56 = .ok (.istore_n 3, 1) := by decide +kernel
theorem dX8_join_57 : decode cX8_join 57 = .ok (.iload_n 3, 1) := by decide +kernel
theorem dX8_join_58 : decode cX8_join 58 = .ok (.iconst 4, 1) := by decide +kernel
theorem dX8_join_59 : decode cX8_join 59 = .ok (.if_icmp .ne 6, 3) := by decide +kernel
theorem dX8_join_62 : decode cX8_join 62 = .ok (.ldc 89, 2) := by decide +kernel
theorem dX8_join_64 : decode cX8_join 64 = .ok (.ireturn, 1) := by decide +kernel
theorem dX8_join_65 : decode cX8_join 65 = .ok (.aload_n 0, 1) := by decide +kernel
theorem dX8_join_66 : decode cX8_join 66 = .ok (.invokevirtual 90, 3) := by decide +kernel
theorem dX8_join_69 : decode cX8_join 69 = .ok (.aload_n 0, 1) := by decide +kernel
theorem dX8_join_70 : decode cX8_join 70 = .ok (.getfield 7, 3) := by decide +kernel
theorem dX8_join_73 : decode cX8_join 73 = .ok (.bipush 94, 2) := by decide +kernel
theorem dX8_join_75 : decode cX8_join 75 = .ok (.iconst 4, 1) := by decide +kernel
theorem dX8_join_76 : decode cX8_join 76 = .ok (.iload_n 1, 1) := by decide +kernel
theorem dX8_join_77 : decode cX8_join 77 = .ok (.imul, 1) := by decide +kernel
theorem dX8_join_78 : decode cX8_join 78 = .ok (.iadd, 1) := by decide +kernel
theorem dX8_join_79 : decode cX8_join 79 = .ok (.iconst 1, 1) := by decide +kernel
theorem dX8_join_80 : decode cX8_join 80 = .ok (.iadd, 1) := by decide +kernel
theorem dX8_join_81 : decode cX8_join 81 = .ok (.dup2, 1) := by decide +kernel
theorem dX8_join_82 : decode cX8_join 82 = .ok (.iaload, 1) := by decide +kernel
theorem dX8_join_83 : decode cX8_join 83 = .ok (.iconst 1, 1) := by decide +kernel
theorem dX8_join_84 : decode cX8_join 84 = .ok (.iload_n 2, 1) := by decide +kernel
theorem dX8_join_85 : decode cX8_join 85 = .ok (.ishl, 1) := by decide +kernel
theorem dX8_join_86 : decode cX8_join 86 = .ok (.ior, 1) := by decide +kernel
theorem dX8_join_87 : decode cX8_join 87 = .ok (.iastore, 1) := by decide +kernel
theorem dX8_join_88 : decode cX8_join 88 = .ok (.iload_n 3, 1) := by decide +kernel
theorem dX8_join_89 : decode cX8_join 89 = .ok (.iconst 1, 1) := by decide +kernel
theorem dX8_join_90 : decode cX8_join 90 = .ok (.iadd, 1) := by decide +kernel
theorem dX8_join_91 : decode cX8_join 91 = .ok (.ireturn, 1) := by decide +kernel
theorem dX8_leave_0 : decode cX8_leave 0 = .ok (.aload_n 0, 1) := by decide +kernel
theorem dX8_leave_1 : decode cX8_leave 1 = .ok (.iload_n 1, 1) := by decide +kernel
theorem dX8_leave_2 : decode cX8_leave 2 = .ok (.invokevirtual 101, 3) := by decide +kernel
theorem dX8_leave_5 : decode cX8_leave 5 = .ok (.ifCond .eq 11, 3) := by decide +kernel
theorem dX8_leave_8 : decode cX8_leave 8 = .ok (.aload_n 0, 1) := by decide +kernel
theorem dX8_leave_9 : decode cX8_leave 9 = .ok (.iload_n 2, 1) := by decide +kernel
theorem dX8_leave_10 : decode cX8_leave 10 = .ok (.invokevirtual 93, 3) := by decide +kernel
theorem dX8_leave_13 : decode cX8_leave 13 = .ok (.ifCond .ne 6, 3) := by decide +kernel
theorem dX8_leave_16 : decode cX8_leave 16 = .ok (.ldc 88, 2) := by decide +kernel
theorem dX8_leave_18 : decode cX8_leave 18 = .ok (.ireturn, 1) := by decide +kernel
theorem dX8_leave_19 : decode cX8_leave 19 = .ok (.aload_n 0, 1) := by decide +kernel
theorem dX8_leave_20 : decode cX8_leave 20 = .ok (.iload_n 1, 1) := by decide +kernel
theorem dX8_leave_21 : decode cX8_leave 21 = .ok (.iload_n 2, 1) := by decide +kernel
theorem dX8_leave_22 : decode cX8_leave 22 = .ok (.invokevirtual 104, 3) := by decide +kernel
theorem dX8_leave_25 : decode cX8_leave 25 = .ok (.ifCond .ne 6, 3) := by decide +kernel
theorem dX8_leave_28 : decode cX8_leave 28 = .ok (.ldc 108, 2) := by decide +kernel
theorem dX8_leave_30 : decode cX8_leave 30 = .ok (.ireturn, 1) := by decide +kernel
theorem dX8_leave_31 : decode cX8_leave 31 = .ok (.aload_n 0, 1) := by decide +kernel
theorem dX8_leave_32 : decode cX8_leave 32 = .ok (.invokevirtual 90, 3) := by decide +kernel
theorem dX8_leave_35 : decode cX8_leave 35 = .ok (.aload_n 0, 1) := by decide +kernel
theorem dX8_leave_36 : decode cX8_leave 36 = .ok (.getfield 7, 3) := by decide +kernel
theorem dX8_leave_39 : decode cX8_leave 39 = .ok (.bipush 94, 2) := by decide +kernel
theorem dX8_leave_41 : decode cX8_leave 41 = .ok (.iconst 4, 1) := by decide +kernel
theorem dX8_leave_42 : decode cX8_leave 42 = .ok (.iload_n 1, 1) := by decide +kernel
theorem dX8_leave_43 : decode cX8_leave 43 = .ok (.imul, 1) := by decide +kernel
theorem dX8_leave_44 : decode cX8_leave 44 = .ok (.iadd, 1) := by decide +kernel
theorem dX8_leave_45 : decode cX8_leave 45 = .ok (.iconst 1, 1) := by decide +kernel
theorem dX8_leave_46 : decode cX8_leave 46 = .ok (.iadd, 1) := by decide +kernel
theorem dX8_leave_47 : decode cX8_leave 47 = .ok (.dup2, 1) := by decide +kernel
theorem dX8_leave_48 : decode cX8_leave 48 = .ok (.iaload, 1) := by decide +kernel
theorem dX8_leave_49 : decode cX8_leave 49 = .ok (.iconst 1, 1) := by decide +kernel
theorem dX8_leave_50 : decode cX8_leave 50 = .ok (.iload_n 2, 1) := by decide +kernel
theorem dX8_leave_51 : decode cX8_leave 51 = .ok (.ishl, 1) := by decide +kernel
theorem dX8_leave_52 : decode cX8_leave 52 = .ok (.ixor, 1) := by decide +kernel
theorem dX8_leave_53 : decode cX8_leave 53 = .ok (.iastore, 1) := by decide +kernel
theorem dX8_leave_54 : decode cX8_leave 54 = .ok (.aload_n 0, 1) := by decide +kernel
theorem dX8_leave_55 : decode cX8_leave 55 = .ok (.aload_n 0, 1) := by decide +kernel
theorem dX8_leave_56 : decode cX8_leave 56 = .ok (.iload_n 1, 1) := by decide +kernel
theorem dX8_leave_57 : decode cX8_leave 57 = .ok (.iconst 1, 1) := by decide +kernel
theorem dX8_leave_58 : decode cX8_leave 58 = .ok (.invokevirtual 68, 3) := by decide +kernel
theorem dX8_leave_61 : decode cX8_leave 61 = .ok (.invokevirtual 71, 3) := by decide +kernel
theorem dX8_leave_64 : decode cX8_leave 64 = .ok (.ireturn, 1) := by decide +kernel
theorem dX8_clockOf_0 : decode cX8_clockOf 0 = .ok (.aload_n 0, 1) := by decide +kernel
theorem dX8_clockOf_1 : decode cX8_clockOf 1 = .ok (.iload_n 1, 1) := by decide +kernel
theorem dX8_clockOf_2 : decode cX8_clockOf 2 = .ok (.invokevirtual 93, 3) := by decide +kernel
theorem dX8_clockOf_5 : decode cX8_clockOf 5 = .ok (.ifCond .eq 13, 3) := by decide +kernel
theorem dX8_clockOf_8 : decode cX8_clockOf 8 = .ok (.iload_n 2, 1) := by decide +kernel
theorem dX8_clockOf_9 : decode cX8_clockOf 9 = .ok (.iconst 0, 1) := by decide +kernel
theorem dX8_clockOf_10 : decode cX8_clockOf 10 = .ok (.bipush 13, 2) := by decide +kernel
theorem dX8_clockOf_12 : decode cX8_clockOf 12 = .ok (.invokestatic 80, 3) := by decide +kernel
theorem dX8_clockOf_15 : decode cX8_clockOf 15 = .ok (.ifCond .ne 6, 3) := by decide +kernel
theorem dX8_clockOf_18 : decode cX8_clockOf 18 = .ok (.ldc 88, 2) := by decide +kernel
theorem dX8_clockOf_20 : decode cX8_clockOf 20 = .ok (.ireturn, 1) := by decide +kernel
theorem dX8_clockOf_21 : decode cX8_clockOf 21 = .ok (.iload_n 2, 1) := by decide +kernel
theorem dX8_clockOf_22 : decode cX8_clockOf 22 = .ok (.tableswitch 104 5 13 #[50, 58, 66, 104, 104, 72, 95, 95, 95], 50) := by decide +kernel
theorem dX8_clockOf_72 : decode cX8_clockOf 72 = .ok (.aload_n 0, 1) := by decide +kernel
theorem dX8_clockOf_73 : decode cX8_clockOf 73 = .ok (.iload_n 1, 1) := by decide +kernel
theorem dX8_clockOf_74 : decode cX8_clockOf 74 = .ok (.bipush 6, 2) := by decide +kernel
theorem dX8_clockOf_76 : decode cX8_clockOf 76 = .ok (.invokevirtual 36, 3) := by decide +kernel
theorem dX8_clockOf_79 : decode cX8_clockOf 79 = .ok (.ireturn, 1) := by decide +kernel
theorem dX8_clockOf_80 : decode cX8_clockOf 80 = .ok (.aload_n 0, 1) := by decide +kernel
theorem dX8_clockOf_81 : decode cX8_clockOf 81 = .ok (.iload_n 1, 1) := by decide +kernel
theorem dX8_clockOf_82 : decode cX8_clockOf 82 = .ok (.bipush 7, 2) := by decide +kernel
theorem dX8_clockOf_84 : decode cX8_clockOf 84 = .ok (.invokevirtual 36, 3) := by decide +kernel
theorem dX8_clockOf_87 : decode cX8_clockOf 87 = .ok (.ireturn, 1) := by decide +kernel
theorem dX8_clockOf_88 : decode cX8_clockOf 88 = .ok (.aload_n 0, 1) := by decide +kernel
theorem dX8_clockOf_89 : decode cX8_clockOf 89 = .ok (.iload_n 1, 1) := by decide +kernel
theorem dX8_clockOf_90 : decode cX8_clockOf 90 = .ok (.invokevirtual 61, 3) := by decide +kernel
theorem dX8_clockOf_93 : decode cX8_clockOf 93 = .ok (.ireturn, 1) := by decide +kernel
theorem dX8_clockOf_94 : decode cX8_clockOf 94 = .ok (.aload_n 0, 1) := by decide +kernel
theorem dX8_clockOf_95 : decode cX8_clockOf 95 = .ok (.iload_n 1, 1) := by decide +kernel
theorem dX8_clockOf_96 : decode cX8_clockOf 96 = .ok (.bipush 8, 2) := by decide +kernel
theorem dX8_clockOf_98 : decode cX8_clockOf 98 = .ok (.invokevirtual 36, 3) := by decide +kernel
theorem dX8_clockOf_101 : decode cX8_clockOf 101 = .ok (.ifCond .ne 8, 3) := by decide +kernel
theorem dX8_clockOf_104 : decode cX8_clockOf 104 = .ok (.ldc 109, 2) := by decide +kernel
theorem dX8_clockOf_106 : decode cX8_clockOf 106 = .ok (.goto 10, 3) := by decide +kernel
theorem dX8_clockOf_109 : decode cX8_clockOf 109 = .ok (.aload_n 0, 1) := by decide +kernel
theorem dX8_clockOf_110 : decode cX8_clockOf 110 = .ok (.iload_n 1, 1) := by decide +kernel
theorem dX8_clockOf_111 : decode cX8_clockOf 111 = .ok (.bipush 11, 2) := by decide +kernel
theorem dX8_clockOf_113 : decode cX8_clockOf 113 = .ok (.invokevirtual 36, 3) := by decide +kernel
theorem dX8_clockOf_116 : decode cX8_clockOf 116 = .ok (.ireturn, 1) := by decide +kernel
theorem dX8_clockOf_117 : decode cX8_clockOf 117 = .ok (.aload_n 0, 1) := by decide +kernel
theorem dX8_clockOf_118 : decode cX8_clockOf 118 = .ok (.iload_n 1, 1) := by decide +kernel
theorem dX8_clockOf_119 : decode cX8_clockOf 119 = .ok (.iload_n 2, 1) := by decide +kernel
theorem dX8_clockOf_120 : decode cX8_clockOf 120 = .ok (.iconst 1, 1) := by decide +kernel
theorem dX8_clockOf_121 : decode cX8_clockOf 121 = .ok (.iadd, 1) := by decide +kernel
theorem dX8_clockOf_122 : decode cX8_clockOf 122 = .ok (.invokevirtual 36, 3) := by decide +kernel
theorem dX8_clockOf_125 : decode cX8_clockOf 125 = .ok (.ireturn, 1) := by decide +kernel
theorem dX8_clockOf_126 : decode cX8_clockOf 126 = .ok (.aload_n 0, 1) := by decide +kernel
theorem dX8_clockOf_127 : decode cX8_clockOf 127 = .ok (.iload_n 1, 1) := by decide +kernel
theorem dX8_clockOf_128 : decode cX8_clockOf 128 = .ok (.iload_n 2, 1) := by decide +kernel
theorem dX8_clockOf_129 : decode cX8_clockOf 129 = .ok (.invokevirtual 36, 3) := by decide +kernel
theorem dX8_clockOf_132 : decode cX8_clockOf 132 = .ok (.ireturn, 1) := by decide +kernel
theorem dX8_ofLaw_0 : decode cX8_ofLaw 0 = .ok (.iconst 0, 1) := by decide +kernel
theorem dX8_ofLaw_1 : decode cX8_ofLaw 1 = .ok (.istore_n 3, 1) := by decide +kernel
theorem dX8_ofLaw_2 : decode cX8_ofLaw 2 = .ok (.iconst 0, 1) := by decide +kernel
theorem dX8_ofLaw_3 : decode cX8_ofLaw 3 = .ok (.istore 4, 2) := by decide +kernel
theorem dX8_ofLaw_5 : decode cX8_ofLaw 5 = .ok (.iload 4, 2) := by decide +kernel
theorem dX8_ofLaw_7 : decode cX8_ofLaw 7 = .ok (.aload_n 0, 1) := by decide +kernel
theorem dX8_ofLaw_8 : decode cX8_ofLaw 8 = .ok (.iload_n 1, 1) := by decide +kernel
theorem dX8_ofLaw_9 : decode cX8_ofLaw 9 = .ok (.invokevirtual 40, 3) := by decide +kernel
theorem dX8_ofLaw_12 : decode cX8_ofLaw 12 = .ok (.if_icmp .ge 44, 3) := by decide +kernel
theorem dX8_ofLaw_15 : decode cX8_ofLaw 15 = .ok (.aload_n 0, 1) := by decide +kernel
theorem dX8_ofLaw_16 : decode cX8_ofLaw 16 = .ok (.iload_n 1, 1) := by decide +kernel
theorem dX8_ofLaw_17 : decode cX8_ofLaw 17 = .ok (.iload 4, 2) := by decide +kernel
theorem dX8_ofLaw_19 : decode cX8_ofLaw 19 = .ok (.invokevirtual 51, 3) := by decide +kernel
theorem dX8_ofLaw_22 : decode cX8_ofLaw 22 = .ok (.istore 5, 2) := by decide +kernel
theorem dX8_ofLaw_24 : decode cX8_ofLaw 24 = .ok (.iload_n 3, 1) := by decide +kernel
theorem dX8_ofLaw_25 : decode cX8_ofLaw 25 = .ok (.iload_n 2, 1) := by decide +kernel
theorem dX8_ofLaw_26 : decode cX8_ofLaw 26 = .ok (.ifCond .ne 7, 3) := by decide +kernel
theorem dX8_ofLaw_29 : decode cX8_ofLaw 29 = .ok (.iconst 1, 1) := by decide +kernel
theorem dX8_ofLaw_30 : decode cX8_ofLaw 30 = .ok (.goto 18, 3) := by decide +kernel
theorem dX8_ofLaw_33 : decode cX8_ofLaw 33 = .ok (.iload_n 2, 1) := by decide +kernel
theorem dX8_ofLaw_34 : decode cX8_ofLaw 34 = .ok (.iconst 1, 1) := by decide +kernel
theorem dX8_ofLaw_35 : decode cX8_ofLaw 35 = .ok (.if_icmp .ne 8, 3) := by decide +kernel
theorem dX8_ofLaw_38 : decode cX8_ofLaw 38 = .ok (.iload 5, 2) := by decide +kernel
theorem dX8_ofLaw_40 : decode cX8_ofLaw 40 = .ok (.goto 8, 3) := by decide +kernel
theorem dX8_ofLaw_43 : decode cX8_ofLaw 43 = .ok (.iload 5, 2) := by decide +kernel
theorem dX8_ofLaw_45 : decode cX8_ofLaw 45 = .ok (.iload 5, 2) := by decide +kernel
theorem dX8_ofLaw_47 : decode cX8_ofLaw 47 = .ok (.imul, 1) := by decide +kernel
theorem dX8_ofLaw_48 : decode cX8_ofLaw 48 = .ok (.iadd, 1) := by decide +kernel
theorem dX8_ofLaw_49 : decode cX8_ofLaw 49 = .ok (.istore_n 3, 1) := by decide +kernel
theorem dX8_ofLaw_50 : decode cX8_ofLaw 50 = .ok (.iinc 4 1, 3) := by decide +kernel
theorem dX8_ofLaw_53 : decode cX8_ofLaw 53 = .ok (.goto (-48), 3) := by decide +kernel
theorem dX8_ofLaw_56 : decode cX8_ofLaw 56 = .ok (.iload_n 3, 1) := by decide +kernel
theorem dX8_ofLaw_57 : decode cX8_ofLaw 57 = .ok (.ireturn, 1) := by decide +kernel
theorem dX8_meanOf_0 : decode cX8_meanOf 0 = .ok (.iload_n 0, 1) := by decide +kernel
theorem dX8_meanOf_1 : decode cX8_meanOf 1 = .ok (.ifCond .ne 9, 3) := by decide +kernel
theorem dX8_meanOf_4 : decode cX8_meanOf 4 = .ok (.iload_n 2, 1) := by decide +kernel
theorem dX8_meanOf_5 : decode cX8_meanOf 5 = .ok (.i2d, 1) := by decide +kernel
theorem dX8_meanOf_6 : decode cX8_meanOf 6 = .ok (.iload_n 1, 1) := by decide +kernel
theorem dX8_meanOf_7 : decode cX8_meanOf 7 = .ok (.i2d, 1) := by decide +kernel
theorem dX8_meanOf_8 : decode cX8_meanOf 8 = .ok (.ddiv, 1) := by decide +kernel
theorem dX8_meanOf_9 : decode cX8_meanOf 9 = .ok (.dreturn, 1) := by decide +kernel
theorem dX8_meanOf_10 : decode cX8_meanOf 10 = .ok (.iload_n 0, 1) := by decide +kernel
theorem dX8_meanOf_11 : decode cX8_meanOf 11 = .ok (.iconst 1, 1) := by decide +kernel
theorem dX8_meanOf_12 : decode cX8_meanOf 12 = .ok (.if_icmp .ne 7, 3) := by decide +kernel
theorem dX8_meanOf_15 : decode cX8_meanOf 15 = .ok (.iload_n 3, 1) := by decide +kernel
theorem dX8_meanOf_16 : decode cX8_meanOf 16 = .ok (.goto 8, 3) := by decide +kernel
theorem dX8_meanOf_19 : decode cX8_meanOf 19 = .ok (.iload_n 3, 1) := by decide +kernel
theorem dX8_meanOf_20 : decode cX8_meanOf 20 = .ok (.iload_n 2, 1) := by decide +kernel
theorem dX8_meanOf_21 : decode cX8_meanOf 21 = .ok (.iadd, 1) := by decide +kernel
theorem dX8_meanOf_22 : decode cX8_meanOf 22 = .ok (.iconst 2, 1) := by decide +kernel
theorem dX8_meanOf_23 : decode cX8_meanOf 23 = .ok (.idiv, 1) := by decide +kernel
theorem dX8_meanOf_24 : decode cX8_meanOf 24 = .ok (.i2d, 1) := by decide +kernel
theorem dX8_meanOf_25 : decode cX8_meanOf 25 = .ok (.iload_n 2, 1) := by decide +kernel
theorem dX8_meanOf_26 : decode cX8_meanOf 26 = .ok (.i2d, 1) := by decide +kernel
theorem dX8_meanOf_27 : decode cX8_meanOf 27 = .ok (.ddiv, 1) := by decide +kernel
theorem dX8_meanOf_28 : decode cX8_meanOf 28 = .ok (.dreturn, 1) := by decide +kernel
theorem dX8_lawMean_0 : decode cX8_lawMean 0 = .ok (.iload_n 2, 1) := by decide +kernel
theorem dX8_lawMean_1 : decode cX8_lawMean 1 = .ok (.aload_n 0, 1) := by decide +kernel
theorem dX8_lawMean_2 : decode cX8_lawMean 2 = .ok (.iload_n 1, 1) := by decide +kernel
theorem dX8_lawMean_3 : decode cX8_lawMean 3 = .ok (.iconst 0, 1) := by decide +kernel
theorem dX8_lawMean_4 : decode cX8_lawMean 4 = .ok (.invokevirtual 110, 3) := by decide +kernel
theorem dX8_lawMean_7 : decode cX8_lawMean 7 = .ok (.aload_n 0, 1) := by decide +kernel
theorem dX8_lawMean_8 : decode cX8_lawMean 8 = .ok (.iload_n 1, 1) := by decide +kernel
theorem dX8_lawMean_9 : decode cX8_lawMean 9 = .ok (.iconst 1, 1) := by decide +kernel
theorem dX8_lawMean_10 : decode cX8_lawMean 10 = .ok (.invokevirtual 110, 3) := by decide +kernel
theorem dX8_lawMean_13 : decode cX8_lawMean 13 = .ok (.aload_n 0, 1) := by decide +kernel
theorem dX8_lawMean_14 : decode cX8_lawMean 14 = .ok (.iload_n 1, 1) := by decide +kernel
theorem dX8_lawMean_15 : decode cX8_lawMean 15 = .ok (.iconst 2, 1) := by decide +kernel
theorem dX8_lawMean_16 : decode cX8_lawMean 16 = .ok (.invokevirtual 110, 3) := by decide +kernel
theorem dX8_lawMean_19 : decode cX8_lawMean 19 = .ok (.invokestatic 113, 3) := by decide +kernel
theorem dX8_lawMean_22 : decode cX8_lawMean 22 = .ok (.dreturn, 1) := by decide +kernel
theorem dX8_mean_0 : decode cX8_mean 0 = .ok (.aload_n 0, 1) := by decide +kernel
theorem dX8_mean_1 : decode cX8_mean 1 = .ok (.iload_n 1, 1) := by decide +kernel
theorem dX8_mean_2 : decode cX8_mean 2 = .ok (.invokevirtual 93, 3) := by decide +kernel
theorem dX8_mean_5 : decode cX8_mean 5 = .ok (.ifCond .eq 12, 3) := by decide +kernel
theorem dX8_mean_8 : decode cX8_mean 8 = .ok (.iload_n 2, 1) := by decide +kernel
theorem dX8_mean_9 : decode cX8_mean 9 = .ok (.iconst 0, 1) := by decide +kernel
theorem dX8_mean_10 : decode cX8_mean 10 = .ok (.iconst 5, 1) := by decide +kernel
theorem dX8_mean_11 : decode cX8_mean 11 = .ok (.invokestatic 80, 3) := by decide +kernel
theorem dX8_mean_14 : decode cX8_mean 14 = .ok (.ifCond .ne 7, 3) := by decide +kernel
theorem dX8_mean_17 : decode cX8_mean 17 = .ok (.ldc2_w 117, 3) := by decide +kernel
theorem dX8_mean_20 : decode cX8_mean 20 = .ok (.lreturn, 1) := by decide +kernel
theorem dX8_mean_21 : decode cX8_mean 21 = .ok (.iload_n 2, 1) := by decide +kernel
theorem dX8_mean_22 : decode cX8_mean 22 = .ok (.iconst 2, 1) := by decide +kernel
theorem dX8_mean_23 : decode cX8_mean 23 = .ok (.if_icmp .le 15, 3) := by decide +kernel
theorem dX8_mean_26 : decode cX8_mean 26 = .ok (.aload_n 0, 1) := by decide +kernel
theorem dX8_mean_27 : decode cX8_mean 27 = .ok (.iload_n 1, 1) := by decide +kernel
theorem dX8_mean_28 : decode cX8_mean 28 = .ok (.iload_n 2, 1) := by decide +kernel
theorem dX8_mean_29 : decode cX8_mean 29 = .ok (.iconst 3, 1) := by decide +kernel
theorem dX8_mean_30 : decode cX8_mean 30 = .ok (.isub, 1) := by decide +kernel
theorem dX8_mean_31 : decode cX8_mean 31 = .ok (.invokevirtual 119, 3) := by decide +kernel
theorem dX8_mean_34 : decode cX8_mean 34 = .ok (.invokestatic 123, 3) := by decide +kernel
theorem dX8_mean_37 : decode cX8_mean 37 = .ok (.lreturn, 1) := by decide +kernel
theorem dX8_mean_38 : decode cX8_mean 38 = .ok (.aload_n 0, 1) := by decide +kernel
theorem dX8_mean_39 : decode cX8_mean 39 = .ok (.iload_n 1, 1) := by decide +kernel
theorem dX8_mean_40 : decode cX8_mean 40 = .ok (.bipush 8, 2) := by decide +kernel
theorem dX8_mean_42 : decode cX8_mean 42 = .ok (.invokevirtual 36, 3) := by decide +kernel
theorem dX8_mean_45 : decode cX8_mean 45 = .ok (.ifCond .ne 9, 3) := by decide +kernel
theorem dX8_mean_48 : decode cX8_mean 48 = .ok (.ldc2_w 129, 3) := by decide +kernel
theorem dX8_mean_51 : decode cX8_mean 51 = .ok (.goto 31, 3) := by decide +kernel
theorem dX8_mean_54 : decode cX8_mean 54 = .ok (.iload_n 2, 1) := by decide +kernel
theorem dX8_mean_55 : decode cX8_mean 55 = .ok (.aload_n 0, 1) := by decide +kernel
theorem dX8_mean_56 : decode cX8_mean 56 = .ok (.iload_n 1, 1) := by decide +kernel
theorem dX8_mean_57 : decode cX8_mean 57 = .ok (.bipush 8, 2) := by decide +kernel
theorem dX8_mean_59 : decode cX8_mean 59 = .ok (.invokevirtual 36, 3) := by decide +kernel
theorem dX8_mean_62 : decode cX8_mean 62 = .ok (.aload_n 0, 1) := by decide +kernel
theorem dX8_mean_63 : decode cX8_mean 63 = .ok (.iload_n 1, 1) := by decide +kernel
theorem dX8_mean_64 : decode cX8_mean 64 = .ok (.bipush 9, 2) := by decide +kernel
theorem dX8_mean_66 : decode cX8_mean 66 = .ok (.invokevirtual 36, 3) := by decide +kernel
theorem dX8_mean_69 : decode cX8_mean 69 = .ok (.aload_n 0, 1) := by decide +kernel
theorem dX8_mean_70 : decode cX8_mean 70 = .ok (.iload_n 1, 1) := by decide +kernel
theorem dX8_mean_71 : decode cX8_mean 71 = .ok (.bipush 10, 2) := by decide +kernel
theorem dX8_mean_73 : decode cX8_mean 73 = .ok (.invokevirtual 36, 3) := by decide +kernel
theorem dX8_mean_76 : decode cX8_mean 76 = .ok (.invokestatic 113, 3) := by decide +kernel
theorem dX8_mean_79 : decode cX8_mean 79 = .ok (.invokestatic 123, 3) := by decide +kernel
theorem dX8_mean_82 : decode cX8_mean 82 = .ok (.lreturn, 1) := by decide +kernel
theorem dX8_leastRest_0 : decode cX8_leastRest 0 = .ok (.ldc 109, 2) := by decide +kernel
theorem dX8_leastRest_2 : decode cX8_leastRest 2 = .ok (.istore_n 2, 1) := by decide +kernel
theorem dX8_leastRest_3 : decode cX8_leastRest 3 = .ok (.iconst 0, 1) := by decide +kernel
theorem dX8_leastRest_4 : decode cX8_leastRest 4 = .ok (.istore_n 3, 1) := by decide +kernel
theorem dX8_leastRest_5 : decode cX8_leastRest 5 = .ok (.iload_n 3, 1) := by decide +kernel
theorem dX8_leastRest_6 : decode cX8_leastRest 6 = .ok (.aload_n 0, 1) := by decide +kernel
theorem dX8_leastRest_7 : decode cX8_leastRest 7 = .ok (.getfield 7, 3) := by decide +kernel
theorem dX8_leastRest_10 : decode cX8_leastRest 10 = .ok (.iconst 0, 1) := by decide +kernel
theorem dX8_leastRest_11 : decode cX8_leastRest 11 = .ok (.iaload, 1) := by decide +kernel
theorem dX8_leastRest_12 : decode cX8_leastRest 12 = .ok (.if_icmp .ge 41, 3) := by decide +kernel
theorem dX8_leastRest_15 : decode cX8_leastRest 15 = .ok (.aload_n 0, 1) := by decide +kernel
theorem dX8_leastRest_16 : decode cX8_leastRest 16 = .ok (.iload_n 1, 1) := by decide +kernel
theorem dX8_leastRest_17 : decode cX8_leastRest 17 = .ok (.iload_n 3, 1) := by decide +kernel
theorem dX8_leastRest_18 : decode cX8_leastRest 18 = .ok (.invokevirtual 104, 3) := by decide +kernel
theorem dX8_leastRest_21 : decode cX8_leastRest 21 = .ok (.ifCond .eq 24, 3) := by decide +kernel
theorem dX8_leastRest_24 : decode cX8_leastRest 24 = .ok (.iload_n 2, 1) := by decide +kernel
theorem dX8_leastRest_25 : decode cX8_leastRest 25 = .ok (.ifCond .lt 12, 3) := by decide +kernel
theorem dX8_leastRest_28 : decode cX8_leastRest 28 = .ok (.aload_n 0, 1) := by decide +kernel
theorem dX8_leastRest_29 : decode cX8_leastRest 29 = .ok (.iload_n 3, 1) := by decide +kernel
theorem dX8_leastRest_30 : decode cX8_leastRest 30 = .ok (.invokevirtual 61, 3) := by decide +kernel
theorem dX8_leastRest_33 : decode cX8_leastRest 33 = .ok (.iload_n 2, 1) := by decide +kernel
theorem dX8_leastRest_34 : decode cX8_leastRest 34 = .ok (.if_icmp .ge 11, 3) := by decide +kernel
theorem dX8_leastRest_37 : decode cX8_leastRest 37 = .ok (.aload_n 0, 1) := by decide +kernel
theorem dX8_leastRest_38 : decode cX8_leastRest 38 = .ok (.iload_n 3, 1) := by decide +kernel
theorem dX8_leastRest_39 : decode cX8_leastRest 39 = .ok (.invokevirtual 61, 3) := by decide +kernel
theorem dX8_leastRest_42 : decode cX8_leastRest 42 = .ok (.goto 4, 3) := by decide +kernel
theorem dX8_leastRest_45 : decode cX8_leastRest 45 = .ok (.iload_n 2, 1) := by decide +kernel
theorem dX8_leastRest_46 : decode cX8_leastRest 46 = .ok (.istore_n 2, 1) := by decide +kernel
theorem dX8_leastRest_47 : decode cX8_leastRest 47 = .ok (.iinc 3 1, 3) := by decide +kernel
theorem dX8_leastRest_50 : decode cX8_leastRest 50 = .ok (.goto (-45), 3) := by decide +kernel
theorem dX8_leastRest_53 : decode cX8_leastRest 53 = .ok (.iload_n 2, 1) := by decide +kernel
theorem dX8_leastRest_54 : decode cX8_leastRest 54 = .ok (.ireturn, 1) := by decide +kernel
theorem dX8_sumIn_0 : decode cX8_sumIn 0 = .ok (.iconst 0, 1) := by decide +kernel
theorem dX8_sumIn_1 : decode cX8_sumIn 1 = .ok (.istore_n 2, 1) := by decide +kernel
theorem dX8_sumIn_2 : decode cX8_sumIn 2 = .ok (.iconst 0, 1) := by decide +kernel
theorem dX8_sumIn_3 : decode cX8_sumIn 3 = .ok (.istore_n 3, 1) := by decide +kernel
theorem dX8_sumIn_4 : decode cX8_sumIn 4 = .ok (.iload_n 3, 1) := by decide +kernel
theorem dX8_sumIn_5 : decode cX8_sumIn 5 = .ok (.aload_n 0, 1) := by decide +kernel
theorem dX8_sumIn_6 : decode cX8_sumIn 6 = .ok (.getfield 7, 3) := by decide +kernel
theorem dX8_sumIn_9 : decode cX8_sumIn 9 = .ok (.iconst 0, 1) := by decide +kernel
theorem dX8_sumIn_10 : decode cX8_sumIn 10 = .ok (.iaload, 1) := by decide +kernel
theorem dX8_sumIn_11 : decode cX8_sumIn 11 = .ok (.if_icmp .ge 32, 3) := by decide +kernel
theorem dX8_sumIn_14 : decode cX8_sumIn 14 = .ok (.iload_n 2, 1) := by decide +kernel
theorem dX8_sumIn_15 : decode cX8_sumIn 15 = .ok (.aload_n 0, 1) := by decide +kernel
theorem dX8_sumIn_16 : decode cX8_sumIn 16 = .ok (.iload_n 1, 1) := by decide +kernel
theorem dX8_sumIn_17 : decode cX8_sumIn 17 = .ok (.iload_n 3, 1) := by decide +kernel
theorem dX8_sumIn_18 : decode cX8_sumIn 18 = .ok (.invokevirtual 104, 3) := by decide +kernel
theorem dX8_sumIn_21 : decode cX8_sumIn 21 = .ok (.ifCond .eq 13, 3) := by decide +kernel
theorem dX8_sumIn_24 : decode cX8_sumIn 24 = .ok (.aload_n 0, 1) := by decide +kernel
theorem dX8_sumIn_25 : decode cX8_sumIn 25 = .ok (.iload_n 3, 1) := by decide +kernel
theorem dX8_sumIn_26 : decode cX8_sumIn 26 = .ok (.bipush 9, 2) := by decide +kernel
theorem dX8_sumIn_28 : decode cX8_sumIn 28 = .ok (.invokevirtual 36, 3) := by decide +kernel
theorem dX8_sumIn_31 : decode cX8_sumIn 31 = .ok (.goto 4, 3) := by decide +kernel
theorem dX8_sumIn_34 : decode cX8_sumIn 34 = .ok (.iconst 0, 1) := by decide +kernel
theorem dX8_sumIn_35 : decode cX8_sumIn 35 = .ok (.iadd, 1) := by decide +kernel
theorem dX8_sumIn_36 : decode cX8_sumIn 36 = .ok (.istore_n 2, 1) := by decide +kernel
theorem dX8_sumIn_37 : decode cX8_sumIn 37 = .ok (.iinc 3 1, 3) := by decide +kernel
theorem dX8_sumIn_40 : decode cX8_sumIn 40 = .ok (.goto (-36), 3) := by decide +kernel
theorem dX8_sumIn_43 : decode cX8_sumIn 43 = .ok (.iload_n 2, 1) := by decide +kernel
theorem dX8_sumIn_44 : decode cX8_sumIn 44 = .ok (.ireturn, 1) := by decide +kernel
theorem dX8_groupOf_0 : decode cX8_groupOf 0 = .ok (.aload_n 0, 1) := by decide +kernel
theorem dX8_groupOf_1 : decode cX8_groupOf 1 = .ok (.iload_n 1, 1) := by decide +kernel
theorem dX8_groupOf_2 : decode cX8_groupOf 2 = .ok (.invokevirtual 101, 3) := by decide +kernel
theorem dX8_groupOf_5 : decode cX8_groupOf 5 = .ok (.ifCond .eq 12, 3) := by decide +kernel
theorem dX8_groupOf_8 : decode cX8_groupOf 8 = .ok (.iload_n 2, 1) := by decide +kernel
theorem dX8_groupOf_9 : decode cX8_groupOf 9 = .ok (.iconst 0, 1) := by decide +kernel
theorem dX8_groupOf_10 : decode cX8_groupOf 10 = .ok (.iconst 5, 1) := by decide +kernel
theorem dX8_groupOf_11 : decode cX8_groupOf 11 = .ok (.invokestatic 80, 3) := by decide +kernel
theorem dX8_groupOf_14 : decode cX8_groupOf 14 = .ok (.ifCond .ne 6, 3) := by decide +kernel
theorem dX8_groupOf_17 : decode cX8_groupOf 17 = .ok (.ldc 88, 2) := by decide +kernel
theorem dX8_groupOf_19 : decode cX8_groupOf 19 = .ok (.ireturn, 1) := by decide +kernel
theorem dX8_groupOf_20 : decode cX8_groupOf 20 = .ok (.iload_n 2, 1) := by decide +kernel
theorem dX8_groupOf_21 : decode cX8_groupOf 21 = .ok (.tableswitch 52 2 5 #[31, 37, 37, 46], 31) := by decide +kernel
theorem dX8_groupOf_52 : decode cX8_groupOf 52 = .ok (.aload_n 0, 1) := by decide +kernel
theorem dX8_groupOf_53 : decode cX8_groupOf 53 = .ok (.iload_n 1, 1) := by decide +kernel
theorem dX8_groupOf_54 : decode cX8_groupOf 54 = .ok (.invokevirtual 131, 3) := by decide +kernel
theorem dX8_groupOf_57 : decode cX8_groupOf 57 = .ok (.ireturn, 1) := by decide +kernel
theorem dX8_groupOf_58 : decode cX8_groupOf 58 = .ok (.aload_n 0, 1) := by decide +kernel
theorem dX8_groupOf_59 : decode cX8_groupOf 59 = .ok (.iload_n 1, 1) := by decide +kernel
theorem dX8_groupOf_60 : decode cX8_groupOf 60 = .ok (.iload_n 2, 1) := by decide +kernel
theorem dX8_groupOf_61 : decode cX8_groupOf 61 = .ok (.iconst 1, 1) := by decide +kernel
theorem dX8_groupOf_62 : decode cX8_groupOf 62 = .ok (.isub, 1) := by decide +kernel
theorem dX8_groupOf_63 : decode cX8_groupOf 63 = .ok (.invokevirtual 68, 3) := by decide +kernel
theorem dX8_groupOf_66 : decode cX8_groupOf 66 = .ok (.ireturn, 1) := by decide +kernel
theorem dX8_groupOf_67 : decode cX8_groupOf 67 = .ok (.aload_n 0, 1) := by decide +kernel
theorem dX8_groupOf_68 : decode cX8_groupOf 68 = .ok (.iload_n 1, 1) := by decide +kernel
theorem dX8_groupOf_69 : decode cX8_groupOf 69 = .ok (.invokevirtual 134, 3) := by decide +kernel
theorem dX8_groupOf_72 : decode cX8_groupOf 72 = .ok (.ireturn, 1) := by decide +kernel
theorem dX8_groupOf_73 : decode cX8_groupOf 73 = .ok (.aload_n 0, 1) := by decide +kernel
theorem dX8_groupOf_74 : decode cX8_groupOf 74 = .ok (.iload_n 1, 1) := by decide +kernel
theorem dX8_groupOf_75 : decode cX8_groupOf 75 = .ok (.iload_n 2, 1) := by decide +kernel
theorem dX8_groupOf_76 : decode cX8_groupOf 76 = .ok (.invokevirtual 68, 3) := by decide +kernel
theorem dX8_groupOf_79 : decode cX8_groupOf 79 = .ok (.ireturn, 1) := by decide +kernel
theorem dX8_next_0 : decode cX8_next 0 = .ok (.iload_n 1, 1) := by decide +kernel
theorem dX8_next_1 : decode cX8_next 1 = .ok (.ifCond .ge 6, 3) := by decide +kernel
theorem dX8_next_4 : decode cX8_next 4 = .ok (.ldc 88, 2) := by decide +kernel
theorem dX8_next_6 : decode cX8_next 6 = .ok (.ireturn, 1) := by decide +kernel
theorem dX8_next_7 : decode cX8_next 7 = .ok (.iconst 0, 1) := by decide +kernel
theorem dX8_next_8 : decode cX8_next 8 = .ok (.istore_n 2, 1) := by decide +kernel
theorem dX8_next_9 : decode cX8_next 9 = .ok (.iload_n 2, 1) := by decide +kernel
theorem dX8_next_10 : decode cX8_next 10 = .ok (.aload_n 0, 1) := by decide +kernel
theorem dX8_next_11 : decode cX8_next 11 = .ok (.getfield 7, 3) := by decide +kernel
theorem dX8_next_14 : decode cX8_next 14 = .ok (.iconst 0, 1) := by decide +kernel
theorem dX8_next_15 : decode cX8_next 15 = .ok (.iaload, 1) := by decide +kernel
theorem dX8_next_16 : decode cX8_next 16 = .ok (.if_icmp .ge 80, 3) := by decide +kernel
theorem dX8_next_19 : decode cX8_next 19 = .ok (.iconst 0, 1) := by decide +kernel
theorem dX8_next_20 : decode cX8_next 20 = .ok (.istore_n 3, 1) := by decide +kernel
theorem dX8_next_21 : decode cX8_next 21 = .ok (.iconst 0, 1) := by decide +kernel
theorem dX8_next_22 : decode cX8_next 22 = .ok (.istore 4, 2) := by decide +kernel
theorem dX8_next_24 : decode cX8_next 24 = .ok (.iload 4, 2) := by decide +kernel
theorem dX8_next_26 : decode cX8_next 26 = .ok (.aload_n 0, 1) := by decide +kernel
theorem dX8_next_27 : decode cX8_next 27 = .ok (.getfield 7, 3) := by decide +kernel
theorem dX8_next_30 : decode cX8_next 30 = .ok (.iconst 0, 1) := by decide +kernel
theorem dX8_next_31 : decode cX8_next 31 = .ok (.iaload, 1) := by decide +kernel
theorem dX8_next_32 : decode cX8_next 32 = .ok (.if_icmp .ge 51, 3) := by decide +kernel
theorem dX8_next_35 : decode cX8_next 35 = .ok (.iload_n 3, 1) := by decide +kernel
theorem dX8_next_36 : decode cX8_next 36 = .ok (.aload_n 0, 1) := by decide +kernel
theorem dX8_next_37 : decode cX8_next 37 = .ok (.iload 4, 2) := by decide +kernel
theorem dX8_next_39 : decode cX8_next 39 = .ok (.invokevirtual 61, 3) := by decide +kernel
theorem dX8_next_42 : decode cX8_next 42 = .ok (.aload_n 0, 1) := by decide +kernel
theorem dX8_next_43 : decode cX8_next 43 = .ok (.iload_n 2, 1) := by decide +kernel
theorem dX8_next_44 : decode cX8_next 44 = .ok (.invokevirtual 61, 3) := by decide +kernel
theorem dX8_next_47 : decode cX8_next 47 = .ok (.if_icmp .lt 23, 3) := by decide +kernel
theorem dX8_next_50 : decode cX8_next 50 = .ok (.aload_n 0, 1) := by decide +kernel
theorem dX8_next_51 : decode cX8_next 51 = .ok (.iload 4, 2) := by decide +kernel
theorem dX8_next_53 : decode cX8_next 53 = .ok (.invokevirtual 61, 3) := by decide +kernel
theorem dX8_next_56 : decode cX8_next 56 = .ok (.aload_n 0, 1) := by decide +kernel
theorem dX8_next_57 : decode cX8_next 57 = .ok (.iload_n 2, 1) := by decide +kernel
theorem dX8_next_58 : decode cX8_next 58 = .ok (.invokevirtual 61, 3) := by decide +kernel
theorem dX8_next_61 : decode cX8_next 61 = .ok (.if_icmp .ne 13, 3) := by decide +kernel
theorem dX8_next_64 : decode cX8_next 64 = .ok (.iload 4, 2) := by decide +kernel
theorem dX8_next_66 : decode cX8_next 66 = .ok (.iload_n 2, 1) := by decide +kernel
theorem dX8_next_67 : decode cX8_next 67 = .ok (.if_icmp .ge 7, 3) := by decide +kernel
theorem dX8_next_70 : decode cX8_next 70 = .ok (.iconst 1, 1) := by decide +kernel
theorem dX8_next_71 : decode cX8_next 71 = .ok (.goto 4, 3) := by decide +kernel
theorem dX8_next_74 : decode cX8_next 74 = .ok (.iconst 0, 1) := by decide +kernel
theorem dX8_next_75 : decode cX8_next 75 = .ok (.iadd, 1) := by decide +kernel
theorem dX8_next_76 : decode cX8_next 76 = .ok (.istore_n 3, 1) := by decide +kernel
theorem dX8_next_77 : decode cX8_next 77 = .ok (.iinc 4 1, 3) := by decide +kernel
theorem dX8_next_80 : decode cX8_next 80 = .ok (.goto (-56), 3) := by decide +kernel
theorem dX8_next_83 : decode cX8_next 83 = .ok (.iload_n 3, 1) := by decide +kernel
theorem dX8_next_84 : decode cX8_next 84 = .ok (.iload_n 1, 1) := by decide +kernel
theorem dX8_next_85 : decode cX8_next 85 = .ok (.if_icmp .ne 5, 3) := by decide +kernel
theorem dX8_next_88 : decode cX8_next 88 = .ok (.iload_n 2, 1) := by decide +kernel
theorem dX8_next_89 : decode cX8_next 89 = .ok (.ireturn, 1) := by decide +kernel
theorem dX8_next_90 : decode cX8_next 90 = .ok (.iinc 2 1, 3) := by decide +kernel
theorem dX8_next_93 : decode cX8_next 93 = .ok (.goto (-84), 3) := by decide +kernel
theorem dX8_next_96 : decode cX8_next 96 = .ok (.ldc 109, 2) := by decide +kernel
theorem dX8_next_98 : decode cX8_next 98 = .ok (.ireturn, 1) := by decide +kernel
theorem dX8_would_0 : decode cX8_would 0 = .ok (.aload_n 0, 1) := by decide +kernel
theorem dX8_would_1 : decode cX8_would 1 = .ok (.iload_n 1, 1) := by decide +kernel
theorem dX8_would_2 : decode cX8_would 2 = .ok (.invokevirtual 93, 3) := by decide +kernel
theorem dX8_would_5 : decode cX8_would 5 = .ok (.ifCond .eq 23, 3) := by decide +kernel
theorem dX8_would_8 : decode cX8_would 8 = .ok (.iload_n 2, 1) := by decide +kernel
theorem dX8_would_9 : decode cX8_would 9 = .ok (.iconst 1, 1) := by decide +kernel
theorem dX8_would_10 : decode cX8_would 10 = .ok (.sipush 200, 3) := by decide +kernel
theorem dX8_would_13 : decode cX8_would 13 = .ok (.invokestatic 80, 3) := by decide +kernel
theorem dX8_would_16 : decode cX8_would 16 = .ok (.ifCond .eq 12, 3) := by decide +kernel
theorem dX8_would_19 : decode cX8_would 19 = .ok (.iload_n 3, 1) := by decide +kernel
theorem dX8_would_20 : decode cX8_would 20 = .ok (.iconst 0, 1) := by decide +kernel
theorem dX8_would_21 : decode cX8_would 21 = .ok (.iconst 3, 1) := by decide +kernel
theorem dX8_would_22 : decode cX8_would 22 = .ok (.invokestatic 80, 3) := by decide +kernel
theorem dX8_would_25 : decode cX8_would 25 = .ok (.ifCond .ne 6, 3) := by decide +kernel
theorem dX8_would_28 : decode cX8_would 28 = .ok (.ldc 88, 2) := by decide +kernel
theorem dX8_would_30 : decode cX8_would 30 = .ok (.ireturn, 1) := by decide +kernel
theorem dX8_would_31 : decode cX8_would 31 = .ok (.aload_n 0, 1) := by decide +kernel
theorem dX8_would_32 : decode cX8_would 32 = .ok (.getfield 7, 3) := by decide +kernel
theorem dX8_would_35 : decode cX8_would 35 = .ok (.aload_n 0, 1) := by decide +kernel
theorem dX8_would_36 : decode cX8_would 36 = .ok (.getfield 19, 3) := by decide +kernel
theorem dX8_would_39 : decode cX8_would 39 = .ok (.invokestatic 137, 3) := by decide +kernel
theorem dX8_would_42 : decode cX8_would 42 = .ok (.aload_n 0, 1) := by decide +kernel
theorem dX8_would_43 : decode cX8_would 43 = .ok (.iload_n 2, 1) := by decide +kernel
theorem dX8_would_44 : decode cX8_would 44 = .ok (.invokevirtual 98, 3) := by decide +kernel
theorem dX8_would_47 : decode cX8_would 47 = .ok (.istore 4, 2) := by decide +kernel
theorem dX8_would_49 : decode cX8_would 49 = .ok (.iload_n 3, 1) := by decide +kernel
theorem dX8_would_50 : decode cX8_would 50 = .ok (.ifCond .ne 13, 3) := by decide +kernel
theorem dX8_would_53 : decode cX8_would 53 = .ok (.aload_n 0, 1) := by decide +kernel
theorem dX8_would_54 : decode cX8_would 54 = .ok (.iload_n 1, 1) := by decide +kernel
theorem dX8_would_55 : decode cX8_would 55 = .ok (.bipush 7, 2) := by decide +kernel
theorem dX8_would_57 : decode cX8_would 57 = .ok (.invokevirtual 36, 3) := by decide +kernel
theorem dX8_would_60 : decode cX8_would 60 = .ok (.goto 38, 3) := by decide +kernel
theorem dX8_would_63 : decode cX8_would 63 = .ok (.iload_n 3, 1) := by decide +kernel
theorem dX8_would_64 : decode cX8_would 64 = .ok (.iconst 1, 1) := by decide +kernel
theorem dX8_would_65 : decode cX8_would 65 = .ok (.if_icmp .ne 11, 3) := by decide +kernel
theorem dX8_would_68 : decode cX8_would 68 = .ok (.aload_n 0, 1) := by decide +kernel
theorem dX8_would_69 : decode cX8_would 69 = .ok (.iload_n 1, 1) := by decide +kernel
theorem dX8_would_70 : decode cX8_would 70 = .ok (.invokevirtual 61, 3) := by decide +kernel
theorem dX8_would_73 : decode cX8_would 73 = .ok (.goto 25, 3) := by decide +kernel
theorem dX8_would_76 : decode cX8_would 76 = .ok (.iload_n 3, 1) := by decide +kernel
theorem dX8_would_77 : decode cX8_would 77 = .ok (.iconst 2, 1) := by decide +kernel
theorem dX8_would_78 : decode cX8_would 78 = .ok (.if_icmp .ne 13, 3) := by decide +kernel
theorem dX8_would_81 : decode cX8_would 81 = .ok (.aload_n 0, 1) := by decide +kernel
theorem dX8_would_82 : decode cX8_would 82 = .ok (.iload_n 1, 1) := by decide +kernel
theorem dX8_would_83 : decode cX8_would 83 = .ok (.bipush 8, 2) := by decide +kernel
theorem dX8_would_85 : decode cX8_would 85 = .ok (.invokevirtual 36, 3) := by decide +kernel
theorem dX8_would_88 : decode cX8_would 88 = .ok (.goto 10, 3) := by decide +kernel
theorem dX8_would_91 : decode cX8_would 91 = .ok (.aload_n 0, 1) := by decide +kernel
theorem dX8_would_92 : decode cX8_would 92 = .ok (.iload_n 1, 1) := by decide +kernel
theorem dX8_would_93 : decode cX8_would 93 = .ok (.bipush 6, 2) := by decide +kernel
theorem dX8_would_95 : decode cX8_would 95 = .ok (.invokevirtual 36, 3) := by decide +kernel
theorem dX8_would_98 : decode cX8_would 98 = .ok (.istore 5, 2) := by decide +kernel
theorem dX8_would_100 : decode cX8_would 100 = .ok (.aload_n 0, 1) := by decide +kernel
theorem dX8_would_101 : decode cX8_would 101 = .ok (.getfield 19, 3) := by decide +kernel
theorem dX8_would_104 : decode cX8_would 104 = .ok (.aload_n 0, 1) := by decide +kernel
theorem dX8_would_105 : decode cX8_would 105 = .ok (.getfield 7, 3) := by decide +kernel
theorem dX8_would_108 : decode cX8_would 108 = .ok (.invokestatic 137, 3) := by decide +kernel
theorem dX8_would_111 : decode cX8_would 111 = .ok (.iload_n 3, 1) := by decide +kernel
theorem dX8_would_112 : decode cX8_would 112 = .ok (.iconst 2, 1) := by decide +kernel
theorem dX8_would_113 : decode cX8_would 113 = .ok (.if_icmp .ne 16, 3) := by decide +kernel
theorem dX8_would_116 : decode cX8_would 116 = .ok (.iload 5, 2) := by decide +kernel
theorem dX8_would_118 : decode cX8_would 118 = .ok (.aload_n 0, 1) := by decide +kernel
theorem dX8_would_119 : decode cX8_would 119 = .ok (.iload_n 1, 1) := by decide +kernel
theorem dX8_would_120 : decode cX8_would 120 = .ok (.bipush 8, 2) := by decide +kernel
theorem dX8_would_122 : decode cX8_would 122 = .ok (.invokevirtual 36, 3) := by decide +kernel
theorem dX8_would_125 : decode cX8_would 125 = .ok (.isub, 1) := by decide +kernel
theorem dX8_would_126 : decode cX8_would 126 = .ok (.goto 5, 3) := by decide +kernel
theorem dX8_would_129 : decode cX8_would 129 = .ok (.iload 5, 2) := by decide +kernel
theorem dX8_would_131 : decode cX8_would 131 = .ok (.ireturn, 1) := by decide +kernel
theorem dX8_meets_0 : decode cX8_meets 0 = .ok (.aload_n 0, 1) := by decide +kernel
theorem dX8_meets_1 : decode cX8_meets 1 = .ok (.iload_n 1, 1) := by decide +kernel
theorem dX8_meets_2 : decode cX8_meets 2 = .ok (.invokevirtual 101, 3) := by decide +kernel
theorem dX8_meets_5 : decode cX8_meets 5 = .ok (.ifCond .ne 6, 3) := by decide +kernel
theorem dX8_meets_8 : decode cX8_meets 8 = .ok (.ldc 88, 2) := by decide +kernel
theorem dX8_meets_10 : decode cX8_meets 10 = .ok (.ireturn, 1) := by decide +kernel
theorem dX8_meets_11 : decode cX8_meets 11 = .ok (.aload_n 0, 1) := by decide +kernel
theorem dX8_meets_12 : decode cX8_meets 12 = .ok (.getfield 7, 3) := by decide +kernel
theorem dX8_meets_15 : decode cX8_meets 15 = .ok (.aload_n 0, 1) := by decide +kernel
theorem dX8_meets_16 : decode cX8_meets 16 = .ok (.getfield 19, 3) := by decide +kernel
theorem dX8_meets_19 : decode cX8_meets 19 = .ok (.invokestatic 137, 3) := by decide +kernel
theorem dX8_meets_22 : decode cX8_meets 22 = .ok (.iconst 0, 1) := by decide +kernel
theorem dX8_meets_23 : decode cX8_meets 23 = .ok (.istore_n 2, 1) := by decide +kernel
theorem dX8_meets_24 : decode cX8_meets 24 = .ok (.iload_n 2, 1) := by decide +kernel
theorem dX8_meets_25 : decode cX8_meets 25 = .ok (.sipush 200, 3) := by decide +kernel
theorem dX8_meets_28 : decode cX8_meets 28 = .ok (.if_icmp .ge 42, 3) := by decide +kernel
theorem dX8_meets_31 : decode cX8_meets 31 = .ok (.aload_n 0, 1) := by decide +kernel
theorem dX8_meets_32 : decode cX8_meets 32 = .ok (.getfield 7, 3) := by decide +kernel
theorem dX8_meets_35 : decode cX8_meets 35 = .ok (.bipush 94, 2) := by decide +kernel
theorem dX8_meets_37 : decode cX8_meets 37 = .ok (.iconst 4, 1) := by decide +kernel
theorem dX8_meets_38 : decode cX8_meets 38 = .ok (.iload_n 1, 1) := by decide +kernel
theorem dX8_meets_39 : decode cX8_meets 39 = .ok (.imul, 1) := by decide +kernel
theorem dX8_meets_40 : decode cX8_meets 40 = .ok (.iadd, 1) := by decide +kernel
theorem dX8_meets_41 : decode cX8_meets 41 = .ok (.iconst 3, 1) := by decide +kernel
theorem dX8_meets_42 : decode cX8_meets 42 = .ok (.iadd, 1) := by decide +kernel
theorem dX8_meets_43 : decode cX8_meets 43 = .ok (.iaload, 1) := by decide +kernel
theorem dX8_meets_44 : decode cX8_meets 44 = .ok (.aload_n 0, 1) := by decide +kernel
theorem dX8_meets_45 : decode cX8_meets 45 = .ok (.getfield 19, 3) := by decide +kernel
theorem dX8_meets_48 : decode cX8_meets 48 = .ok (.bipush 94, 2) := by decide +kernel
theorem dX8_meets_50 : decode cX8_meets 50 = .ok (.iconst 4, 1) := by decide +kernel
theorem dX8_meets_51 : decode cX8_meets 51 = .ok (.iload_n 1, 1) := by decide +kernel
theorem dX8_meets_52 : decode cX8_meets 52 = .ok (.imul, 1) := by decide +kernel
theorem dX8_meets_53 : decode cX8_meets 53 = .ok (.iadd, 1) := by decide +kernel
theorem dX8_meets_54 : decode cX8_meets 54 = .ok (.iconst 3, 1) := by decide +kernel
theorem dX8_meets_55 : decode cX8_meets 55 = .ok (.iadd, 1) := by decide +kernel
theorem dX8_meets_56 : decode cX8_meets 56 = .ok (.iaload, 1) := by decide +kernel
theorem dX8_meets_57 : decode cX8_meets 57 = .ok (.if_icmp .ne 13, 3) := by decide +kernel
theorem dX8_meets_60 : decode cX8_meets 60 = .ok (.aload_n 0, 1) := by decide +kernel
theorem dX8_meets_61 : decode cX8_meets 61 = .ok (.invokevirtual 77, 3) := by decide +kernel
theorem dX8_meets_64 : decode cX8_meets 64 = .ok (.iinc 2 1, 3) := by decide +kernel
theorem dX8_meets_67 : decode cX8_meets 67 = .ok (.goto (-43), 3) := by decide +kernel
theorem dX8_meets_70 : decode cX8_meets 70 = .ok (.aload_n 0, 1) := by decide +kernel
theorem dX8_meets_71 : decode cX8_meets 71 = .ok (.getfield 7, 3) := by decide +kernel
theorem dX8_meets_74 : decode cX8_meets 74 = .ok (.bipush 94, 2) := by decide +kernel
theorem dX8_meets_76 : decode cX8_meets 76 = .ok (.iconst 4, 1) := by decide +kernel
theorem dX8_meets_77 : decode cX8_meets 77 = .ok (.iload_n 1, 1) := by decide +kernel
theorem dX8_meets_78 : decode cX8_meets 78 = .ok (.imul, 1) := by decide +kernel
theorem dX8_meets_79 : decode cX8_meets 79 = .ok (.iadd, 1) := by decide +kernel
theorem dX8_meets_80 : decode cX8_meets 80 = .ok (.iconst 3, 1) := by decide +kernel
theorem dX8_meets_81 : decode cX8_meets 81 = .ok (.iadd, 1) := by decide +kernel
theorem dX8_meets_82 : decode cX8_meets 82 = .ok (.iaload, 1) := by decide +kernel
theorem dX8_meets_83 : decode cX8_meets 83 = .ok (.aload_n 0, 1) := by decide +kernel
theorem dX8_meets_84 : decode cX8_meets 84 = .ok (.getfield 19, 3) := by decide +kernel
theorem dX8_meets_87 : decode cX8_meets 87 = .ok (.bipush 94, 2) := by decide +kernel
theorem dX8_meets_89 : decode cX8_meets 89 = .ok (.iconst 4, 1) := by decide +kernel
theorem dX8_meets_90 : decode cX8_meets 90 = .ok (.iload_n 1, 1) := by decide +kernel
theorem dX8_meets_91 : decode cX8_meets 91 = .ok (.imul, 1) := by decide +kernel
theorem dX8_meets_92 : decode cX8_meets 92 = .ok (.iadd, 1) := by decide +kernel
theorem dX8_meets_93 : decode cX8_meets 93 = .ok (.iconst 3, 1) := by decide +kernel
theorem dX8_meets_94 : decode cX8_meets 94 = .ok (.iadd, 1) := by decide +kernel
theorem dX8_meets_95 : decode cX8_meets 95 = .ok (.iaload, 1) := by decide +kernel
theorem dX8_meets_96 : decode cX8_meets 96 = .ok (.if_icmp .le 7, 3) := by decide +kernel
theorem dX8_meets_99 : decode cX8_meets 99 = .ok (.iconst 1, 1) := by decide +kernel
theorem dX8_meets_100 : decode cX8_meets 100 = .ok (.goto 4, 3) := by decide +kernel
theorem dX8_meets_103 : decode cX8_meets 103 = .ok (.iconst 0, 1) := by decide +kernel
theorem dX8_meets_104 : decode cX8_meets 104 = .ok (.istore_n 3, 1) := by decide +kernel
theorem dX8_meets_105 : decode cX8_meets 105 = .ok (.aload_n 0, 1) := by decide +kernel
theorem dX8_meets_106 : decode cX8_meets 106 = .ok (.getfield 19, 3) := by decide +kernel
theorem dX8_meets_109 : decode cX8_meets 109 = .ok (.aload_n 0, 1) := by decide +kernel
theorem dX8_meets_110 : decode cX8_meets 110 = .ok (.getfield 7, 3) := by decide +kernel
theorem dX8_meets_113 : decode cX8_meets 113 = .ok (.invokestatic 137, 3) := by decide +kernel
theorem dX8_meets_116 : decode cX8_meets 116 = .ok (.iload_n 3, 1) := by decide +kernel
theorem dX8_meets_117 : decode cX8_meets 117 = .ok (.ifCond .eq 7, 3) := by decide +kernel
theorem dX8_meets_120 : decode cX8_meets 120 = .ok (.iload_n 2, 1) := by decide +kernel
theorem dX8_meets_121 : decode cX8_meets 121 = .ok (.goto 5, 3) := by decide +kernel
theorem dX8_meets_124 : decode cX8_meets 124 = .ok (.ldc 109, 2) := by decide +kernel
theorem dX8_meets_126 : decode cX8_meets 126 = .ok (.ireturn, 1) := by decide +kernel
theorem dX8_longer_0 : decode cX8_longer 0 = .ok (.dconst 0, 1) := by decide +kernel
theorem dX8_longer_1 : decode cX8_longer 1 = .ok (.dstore_n 1, 1) := by decide +kernel
theorem dX8_longer_2 : decode cX8_longer 2 = .ok (.iconst 0, 1) := by decide +kernel
theorem dX8_longer_3 : decode cX8_longer 3 = .ok (.istore_n 3, 1) := by decide +kernel
theorem dX8_longer_4 : decode cX8_longer 4 = .ok (.iload_n 3, 1) := by decide +kernel
theorem dX8_longer_5 : decode cX8_longer 5 = .ok (.aload_n 0, 1) := by decide +kernel
theorem dX8_longer_6 : decode cX8_longer 6 = .ok (.getfield 7, 3) := by decide +kernel
theorem dX8_longer_9 : decode cX8_longer 9 = .ok (.iconst 0, 1) := by decide +kernel
theorem dX8_longer_10 : decode cX8_longer 10 = .ok (.iaload, 1) := by decide +kernel
theorem dX8_longer_11 : decode cX8_longer 11 = .ok (.if_icmp .ge 27, 3) := by decide +kernel
theorem dX8_longer_14 : decode cX8_longer 14 = .ok (.dload_n 1, 1) := by decide +kernel
theorem dX8_longer_15 : decode cX8_longer 15 = .ok (.aload_n 0, 1) := by decide +kernel
theorem dX8_longer_16 : decode cX8_longer 16 = .ok (.iload_n 3, 1) := by decide +kernel
theorem dX8_longer_17 : decode cX8_longer 17 = .ok (.bipush 12, 2) := by decide +kernel
theorem dX8_longer_19 : decode cX8_longer 19 = .ok (.invokevirtual 36, 3) := by decide +kernel
theorem dX8_longer_22 : decode cX8_longer 22 = .ok (.i2d, 1) := by decide +kernel
theorem dX8_longer_23 : decode cX8_longer 23 = .ok (.aload_n 0, 1) := by decide +kernel
theorem dX8_longer_24 : decode cX8_longer 24 = .ok (.iload_n 3, 1) := by decide +kernel
theorem dX8_longer_25 : decode cX8_longer 25 = .ok (.iconst 2, 1) := by decide +kernel
theorem dX8_longer_26 : decode cX8_longer 26 = .ok (.invokevirtual 119, 3) := by decide +kernel
theorem dX8_longer_29 : decode cX8_longer 29 = .ok (.dmul, 1) := by decide +kernel
theorem dX8_longer_30 : decode cX8_longer 30 = .ok (.dadd, 1) := by decide +kernel
theorem dX8_longer_31 : decode cX8_longer 31 = .ok (.dstore_n 1, 1) := by decide +kernel
theorem dX8_longer_32 : decode cX8_longer 32 = .ok (.iinc 3 1, 3) := by decide +kernel
theorem dX8_longer_35 : decode cX8_longer 35 = .ok (.goto (-31), 3) := by decide +kernel
theorem dX8_longer_38 : decode cX8_longer 38 = .ok (.aload_n 0, 1) := by decide +kernel
theorem dX8_longer_39 : decode cX8_longer 39 = .ok (.bipush 13, 2) := by decide +kernel
theorem dX8_longer_41 : decode cX8_longer 41 = .ok (.invokevirtual 74, 3) := by decide +kernel
theorem dX8_longer_44 : decode cX8_longer 44 = .ok (.i2d, 1) := by decide +kernel
theorem dX8_longer_45 : decode cX8_longer 45 = .ok (.dload_n 1, 1) := by decide +kernel
theorem dX8_longer_46 : decode cX8_longer 46 = .ok (.dsub, 1) := by decide +kernel
theorem dX8_longer_47 : decode cX8_longer 47 = .ok (.invokestatic 123, 3) := by decide +kernel
theorem dX8_longer_50 : decode cX8_longer 50 = .ok (.lreturn, 1) := by decide +kernel
theorem dX8_ending_0 : decode cX8_ending 0 = .ok (.iconst 0, 1) := by decide +kernel
theorem dX8_ending_1 : decode cX8_ending 1 = .ok (.istore_n 1, 1) := by decide +kernel
theorem dX8_ending_2 : decode cX8_ending 2 = .ok (.iconst 0, 1) := by decide +kernel
theorem dX8_ending_3 : decode cX8_ending 3 = .ok (.istore_n 2, 1) := by decide +kernel
theorem dX8_ending_4 : decode cX8_ending 4 = .ok (.iload_n 2, 1) := by decide +kernel
theorem dX8_ending_5 : decode cX8_ending 5 = .ok (.aload_n 0, 1) := by decide +kernel
theorem dX8_ending_6 : decode cX8_ending 6 = .ok (.getfield 7, 3) := by decide +kernel
theorem dX8_ending_9 : decode cX8_ending 9 = .ok (.iconst 0, 1) := by decide +kernel
theorem dX8_ending_10 : decode cX8_ending 10 = .ok (.iaload, 1) := by decide +kernel
theorem dX8_ending_11 : decode cX8_ending 11 = .ok (.if_icmp .ge 28, 3) := by decide +kernel
theorem dX8_ending_14 : decode cX8_ending 14 = .ok (.iload_n 1, 1) := by decide +kernel
theorem dX8_ending_15 : decode cX8_ending 15 = .ok (.aload_n 0, 1) := by decide +kernel
theorem dX8_ending_16 : decode cX8_ending 16 = .ok (.iload_n 2, 1) := by decide +kernel
theorem dX8_ending_17 : decode cX8_ending 17 = .ok (.invokevirtual 61, 3) := by decide +kernel
theorem dX8_ending_20 : decode cX8_ending 20 = .ok (.iconst 1, 1) := by decide +kernel
theorem dX8_ending_21 : decode cX8_ending 21 = .ok (.if_icmp .ne 9, 3) := by decide +kernel
theorem dX8_ending_24 : decode cX8_ending 24 = .ok (.iconst 1, 1) := by decide +kernel
theorem dX8_ending_25 : decode cX8_ending 25 = .ok (.iload_n 2, 1) := by decide +kernel
theorem dX8_ending_26 : decode cX8_ending 26 = .ok (.ishl, 1) := by decide +kernel
theorem dX8_ending_27 : decode cX8_ending 27 = .ok (.goto 4, 3) := by decide +kernel
theorem dX8_ending_30 : decode cX8_ending 30 = .ok (.iconst 0, 1) := by decide +kernel
theorem dX8_ending_31 : decode cX8_ending 31 = .ok (.ior, 1) := by decide +kernel
theorem dX8_ending_32 : decode cX8_ending 32 = .ok (.istore_n 1, 1) := by decide +kernel
theorem dX8_ending_33 : decode cX8_ending 33 = .ok (.iinc 2 1, 3) := by decide +kernel
theorem dX8_ending_36 : decode cX8_ending 36 = .ok (.goto (-32), 3) := by decide +kernel
theorem dX8_ending_39 : decode cX8_ending 39 = .ok (.iload_n 1, 1) := by decide +kernel
theorem dX8_ending_40 : decode cX8_ending 40 = .ok (.ireturn, 1) := by decide +kernel
theorem dX8_oldest_0 : decode cX8_oldest 0 = .ok (.ldc 109, 2) := by decide +kernel
theorem dX8_oldest_2 : decode cX8_oldest 2 = .ok (.istore_n 1, 1) := by decide +kernel
theorem dX8_oldest_3 : decode cX8_oldest 3 = .ok (.iconst 0, 1) := by decide +kernel
theorem dX8_oldest_4 : decode cX8_oldest 4 = .ok (.istore_n 2, 1) := by decide +kernel
theorem dX8_oldest_5 : decode cX8_oldest 5 = .ok (.iload_n 2, 1) := by decide +kernel
theorem dX8_oldest_6 : decode cX8_oldest 6 = .ok (.aload_n 0, 1) := by decide +kernel
theorem dX8_oldest_7 : decode cX8_oldest 7 = .ok (.getfield 7, 3) := by decide +kernel
theorem dX8_oldest_10 : decode cX8_oldest 10 = .ok (.iconst 0, 1) := by decide +kernel
theorem dX8_oldest_11 : decode cX8_oldest 11 = .ok (.iaload, 1) := by decide +kernel
theorem dX8_oldest_12 : decode cX8_oldest 12 = .ok (.if_icmp .ge 32, 3) := by decide +kernel
theorem dX8_oldest_15 : decode cX8_oldest 15 = .ok (.aload_n 0, 1) := by decide +kernel
theorem dX8_oldest_16 : decode cX8_oldest 16 = .ok (.iload_n 2, 1) := by decide +kernel
theorem dX8_oldest_17 : decode cX8_oldest 17 = .ok (.bipush 7, 2) := by decide +kernel
theorem dX8_oldest_19 : decode cX8_oldest 19 = .ok (.invokevirtual 36, 3) := by decide +kernel
theorem dX8_oldest_22 : decode cX8_oldest 22 = .ok (.iload_n 1, 1) := by decide +kernel
theorem dX8_oldest_23 : decode cX8_oldest 23 = .ok (.if_icmp .le 13, 3) := by decide +kernel
theorem dX8_oldest_26 : decode cX8_oldest 26 = .ok (.aload_n 0, 1) := by decide +kernel
theorem dX8_oldest_27 : decode cX8_oldest 27 = .ok (.iload_n 2, 1) := by decide +kernel
theorem dX8_oldest_28 : decode cX8_oldest 28 = .ok (.bipush 7, 2) := by decide +kernel
theorem dX8_oldest_30 : decode cX8_oldest 30 = .ok (.invokevirtual 36, 3) := by decide +kernel
theorem dX8_oldest_33 : decode cX8_oldest 33 = .ok (.goto 4, 3) := by decide +kernel
theorem dX8_oldest_36 : decode cX8_oldest 36 = .ok (.iload_n 1, 1) := by decide +kernel
theorem dX8_oldest_37 : decode cX8_oldest 37 = .ok (.istore_n 1, 1) := by decide +kernel
theorem dX8_oldest_38 : decode cX8_oldest 38 = .ok (.iinc 2 1, 3) := by decide +kernel
theorem dX8_oldest_41 : decode cX8_oldest 41 = .ok (.goto (-36), 3) := by decide +kernel
theorem dX8_oldest_44 : decode cX8_oldest 44 = .ok (.iload_n 1, 1) := by decide +kernel
theorem dX8_oldest_45 : decode cX8_oldest 45 = .ok (.ireturn, 1) := by decide +kernel
theorem dX8_count_0 : decode cX8_count 0 = .ok (.iload_n 1, 1) := by decide +kernel
theorem dX8_count_1 : decode cX8_count 1 = .ok (.tableswitch 107 0 10 #[59, 59, 59, 59, 66, 73, 80, 87, 92, 97, 102], 59) := by decide +kernel
theorem dX8_count_60 : decode cX8_count 60 = .ok (.aload_n 0, 1) := by decide +kernel
theorem dX8_count_61 : decode cX8_count 61 = .ok (.getfield 7, 3) := by decide +kernel
theorem dX8_count_64 : decode cX8_count 64 = .ok (.iload_n 1, 1) := by decide +kernel
theorem dX8_count_65 : decode cX8_count 65 = .ok (.iaload, 1) := by decide +kernel
theorem dX8_count_66 : decode cX8_count 66 = .ok (.ireturn, 1) := by decide +kernel
theorem dX8_count_67 : decode cX8_count 67 = .ok (.aload_n 0, 1) := by decide +kernel
theorem dX8_count_68 : decode cX8_count 68 = .ok (.bipush 8, 2) := by decide +kernel
theorem dX8_count_70 : decode cX8_count 70 = .ok (.invokevirtual 74, 3) := by decide +kernel
theorem dX8_count_73 : decode cX8_count 73 = .ok (.ireturn, 1) := by decide +kernel
theorem dX8_count_74 : decode cX8_count 74 = .ok (.aload_n 0, 1) := by decide +kernel
theorem dX8_count_75 : decode cX8_count 75 = .ok (.bipush 12, 2) := by decide +kernel
theorem dX8_count_77 : decode cX8_count 77 = .ok (.invokevirtual 74, 3) := by decide +kernel
theorem dX8_count_80 : decode cX8_count 80 = .ok (.ireturn, 1) := by decide +kernel
theorem dX8_count_81 : decode cX8_count 81 = .ok (.aload_n 0, 1) := by decide +kernel
theorem dX8_count_82 : decode cX8_count 82 = .ok (.bipush 13, 2) := by decide +kernel
theorem dX8_count_84 : decode cX8_count 84 = .ok (.invokevirtual 74, 3) := by decide +kernel
theorem dX8_count_87 : decode cX8_count 87 = .ok (.ireturn, 1) := by decide +kernel
theorem dX8_count_88 : decode cX8_count 88 = .ok (.aload_n 0, 1) := by decide +kernel
theorem dX8_count_89 : decode cX8_count 89 = .ok (.invokevirtual 141, 3) := by decide +kernel
theorem dX8_count_92 : decode cX8_count 92 = .ok (.ireturn, 1) := by decide +kernel
theorem dX8_count_93 : decode cX8_count 93 = .ok (.aload_n 0, 1) := by decide +kernel
theorem dX8_count_94 : decode cX8_count 94 = .ok (.invokevirtual 145, 3) := by decide +kernel
theorem dX8_count_97 : decode cX8_count 97 = .ok (.ireturn, 1) := by decide +kernel
theorem dX8_count_98 : decode cX8_count 98 = .ok (.aload_n 0, 1) := by decide +kernel
theorem dX8_count_99 : decode cX8_count 99 = .ok (.getfield 32, 3) := by decide +kernel
theorem dX8_count_102 : decode cX8_count 102 = .ok (.ireturn, 1) := by decide +kernel
theorem dX8_count_103 : decode cX8_count 103 = .ok (.aload_n 0, 1) := by decide +kernel
theorem dX8_count_104 : decode cX8_count 104 = .ok (.getfield 148, 3) := by decide +kernel
theorem dX8_count_107 : decode cX8_count 107 = .ok (.ireturn, 1) := by decide +kernel
theorem dX8_count_108 : decode cX8_count 108 = .ok (.ldc 88, 2) := by decide +kernel
theorem dX8_count_110 : decode cX8_count 110 = .ok (.ireturn, 1) := by decide +kernel
theorem dX8_undo_0 : decode cX8_undo 0 = .ok (.aload_n 0, 1) := by decide +kernel
theorem dX8_undo_1 : decode cX8_undo 1 = .ok (.getfield 32, 3) := by decide +kernel
theorem dX8_undo_4 : decode cX8_undo 4 = .ok (.ifCond .ne 6, 3) := by decide +kernel
theorem dX8_undo_7 : decode cX8_undo 7 = .ok (.ldc 108, 2) := by decide +kernel
theorem dX8_undo_9 : decode cX8_undo 9 = .ok (.ireturn, 1) := by decide +kernel
theorem dX8_undo_10 : decode cX8_undo 10 = .ok (.aload_n 0, 1) := by decide +kernel
theorem dX8_undo_11 : decode cX8_undo 11 = .ok (.dup, 1) := by decide +kernel
theorem dX8_undo_12 : decode cX8_undo 12 = .ok (.getfield 32, 3) := by decide +kernel
theorem dX8_undo_15 : decode cX8_undo 15 = .ok (.iconst 1, 1) := by decide +kernel
theorem dX8_undo_16 : decode cX8_undo 16 = .ok (.isub, 1) := by decide +kernel
theorem dX8_undo_17 : decode cX8_undo 17 = .ok (.putfield 32, 3) := by decide +kernel
theorem dX8_undo_20 : decode cX8_undo 20 = .ok (.iconst 0, 1) := by decide +kernel
theorem dX8_undo_21 : decode cX8_undo 21 = .ok (.istore_n 1, 1) := by decide +kernel
theorem dX8_undo_22 : decode cX8_undo 22 = .ok (.iload_n 1, 1) := by decide +kernel
theorem dX8_undo_23 : decode cX8_undo 23 = .ok (.bipush 110, 2) := by decide +kernel
theorem dX8_undo_25 : decode cX8_undo 25 = .ok (.if_icmp .ge 29, 3) := by decide +kernel
theorem dX8_undo_28 : decode cX8_undo 28 = .ok (.aload_n 0, 1) := by decide +kernel
theorem dX8_undo_29 : decode cX8_undo 29 = .ok (.getfield 7, 3) := by decide +kernel
theorem dX8_undo_32 : decode cX8_undo 32 = .ok (.iload_n 1, 1) := by decide +kernel
theorem dX8_undo_33 : decode cX8_undo 33 = .ok (.aload_n 0, 1) := by decide +kernel
theorem dX8_undo_34 : decode cX8_undo 34 = .ok (.getfield 13, 3) := by decide +kernel
theorem dX8_undo_37 : decode cX8_undo 37 = .ok (.bipush 110, 2) := by decide +kernel
theorem dX8_undo_39 : decode cX8_undo 39 = .ok (.aload_n 0, 1) := by decide +kernel
theorem dX8_undo_40 : decode cX8_undo 40 = .ok (.getfield 32, 3) := by decide +kernel
theorem dX8_undo_43 : decode cX8_undo 43 = .ok (.imul, 1) := by decide +kernel
theorem dX8_undo_44 : decode cX8_undo 44 = .ok (.iload_n 1, 1) := by decide +kernel
theorem dX8_undo_45 : decode cX8_undo 45 = .ok (.iadd, 1) := by decide +kernel
theorem dX8_undo_46 : decode cX8_undo 46 = .ok (.iaload, 1) := by decide +kernel
theorem dX8_undo_47 : decode cX8_undo 47 = .ok (.iastore, 1) := by decide +kernel
theorem dX8_undo_48 : decode cX8_undo 48 = .ok (.iinc 1 1, 3) := by decide +kernel
theorem dX8_undo_51 : decode cX8_undo 51 = .ok (.goto (-29), 3) := by decide +kernel
theorem dX8_undo_54 : decode cX8_undo 54 = .ok (.aload_n 0, 1) := by decide +kernel
theorem dX8_undo_55 : decode cX8_undo 55 = .ok (.getfield 32, 3) := by decide +kernel
theorem dX8_undo_58 : decode cX8_undo 58 = .ok (.ireturn, 1) := by decide +kernel
theorem dX8_type_0 : decode cX8_type 0 = .ok (.iload_n 1, 1) := by decide +kernel
theorem dX8_type_1 : decode cX8_type 1 = .ok (.bipush 32, 2) := by decide +kernel
theorem dX8_type_3 : decode cX8_type 3 = .ok (.bipush 126, 2) := by decide +kernel
theorem dX8_type_5 : decode cX8_type 5 = .ok (.invokestatic 80, 3) := by decide +kernel
theorem dX8_type_8 : decode cX8_type 8 = .ok (.ifCond .ne 6, 3) := by decide +kernel
theorem dX8_type_11 : decode cX8_type 11 = .ok (.ldc 88, 2) := by decide +kernel
theorem dX8_type_13 : decode cX8_type 13 = .ok (.ireturn, 1) := by decide +kernel
theorem dX8_type_14 : decode cX8_type 14 = .ok (.aload_n 0, 1) := by decide +kernel
theorem dX8_type_15 : decode cX8_type 15 = .ok (.getfield 148, 3) := by decide +kernel
theorem dX8_type_18 : decode cX8_type 18 = .ok (.bipush 60, 2) := by decide +kernel
theorem dX8_type_20 : decode cX8_type 20 = .ok (.if_icmp .ne 6, 3) := by decide +kernel
theorem dX8_type_23 : decode cX8_type 23 = .ok (.ldc 89, 2) := by decide +kernel
theorem dX8_type_25 : decode cX8_type 25 = .ok (.ireturn, 1) := by decide +kernel
theorem dX8_type_26 : decode cX8_type 26 = .ok (.aload_n 0, 1) := by decide +kernel
theorem dX8_type_27 : decode cX8_type 27 = .ok (.getfield 22, 3) := by decide +kernel
theorem dX8_type_30 : decode cX8_type 30 = .ok (.aload_n 0, 1) := by decide +kernel
theorem dX8_type_31 : decode cX8_type 31 = .ok (.getfield 148, 3) := by decide +kernel
theorem dX8_type_34 : decode cX8_type 34 = .ok (.iload_n 1, 1) := by decide +kernel
theorem dX8_type_35 : decode cX8_type 35 = .ok (.iastore, 1) := by decide +kernel
theorem dX8_type_36 : decode cX8_type 36 = .ok (.aload_n 0, 1) := by decide +kernel
theorem dX8_type_37 : decode cX8_type 37 = .ok (.dup, 1) := by decide +kernel
theorem dX8_type_38 : decode cX8_type 38 = .ok (.getfield 148, 3) := by decide +kernel
theorem dX8_type_41 : decode cX8_type 41 = .ok (.iconst 1, 1) := by decide +kernel
theorem dX8_type_42 : decode cX8_type 42 = .ok (.iadd, 1) := by decide +kernel
theorem dX8_type_43 : decode cX8_type 43 = .ok (.putfield 148, 3) := by decide +kernel
theorem dX8_type_46 : decode cX8_type 46 = .ok (.aload_n 0, 1) := by decide +kernel
theorem dX8_type_47 : decode cX8_type 47 = .ok (.getfield 148, 3) := by decide +kernel
theorem dX8_type_50 : decode cX8_type 50 = .ok (.ireturn, 1) := by decide +kernel
theorem dX8_clearText_0 : decode cX8_clearText 0 = .ok (.aload_n 0, 1) := by decide +kernel
theorem dX8_clearText_1 : decode cX8_clearText 1 = .ok (.getfield 148, 3) := by decide +kernel
theorem dX8_clearText_4 : decode cX8_clearText 4 = .ok (.istore_n 1, 1) := by decide +kernel
theorem dX8_clearText_5 : decode cX8_clearText 5 = .ok (.aload_n 0, 1) := by decide +kernel
theorem dX8_clearText_6 : decode cX8_clearText 6 = .ok (.iconst 0, 1) := by decide +kernel
theorem dX8_clearText_7 : decode cX8_clearText 7 = .ok (.putfield 148, 3) := by decide +kernel
theorem dX8_clearText_10 : decode cX8_clearText 10 = .ok (.iload_n 1, 1) := by decide +kernel
theorem dX8_clearText_11 : decode cX8_clearText 11 = .ok (.ireturn, 1) := by decide +kernel
theorem dX8_isAt_0 : decode cX8_isAt 0 = .ok (.aload_n 0, 1) := by decide +kernel
theorem dX8_isAt_1 : decode cX8_isAt 1 = .ok (.getfield 151, 3) := by decide +kernel
theorem dX8_isAt_4 : decode cX8_isAt 4 = .ok (.aload_n 0, 1) := by decide +kernel
theorem dX8_isAt_5 : decode cX8_isAt 5 = .ok (.getfield 148, 3) := by decide +kernel
theorem dX8_isAt_8 : decode cX8_isAt 8 = .ok (.if_icmp .ge 24, 3) := by decide +kernel
theorem dX8_isAt_11 : decode cX8_isAt 11 = .ok (.aload_n 0, 1) := by decide +kernel
theorem dX8_isAt_12 : decode cX8_isAt 12 = .ok (.getfield 22, 3) := by decide +kernel
theorem dX8_isAt_15 : decode cX8_isAt 15 = .ok (.aload_n 0, 1) := by decide +kernel
theorem dX8_isAt_16 : decode cX8_isAt 16 = .ok (.getfield 151, 3) := by decide +kernel
theorem dX8_isAt_19 : decode cX8_isAt 19 = .ok (.iaload, 1) := by decide +kernel
theorem dX8_isAt_20 : decode cX8_isAt 20 = .ok (.iload_n 1, 1) := by decide +kernel
theorem dX8_isAt_21 : decode cX8_isAt 21 = .ok (.iload_n 2, 1) := by decide +kernel
theorem dX8_isAt_22 : decode cX8_isAt 22 = .ok (.invokestatic 80, 3) := by decide +kernel
theorem dX8_isAt_25 : decode cX8_isAt 25 = .ok (.ifCond .eq 7, 3) := by decide +kernel
theorem dX8_isAt_28 : decode cX8_isAt 28 = .ok (.iconst 1, 1) := by decide +kernel
theorem dX8_isAt_29 : decode cX8_isAt 29 = .ok (.goto 4, 3) := by decide +kernel
theorem dX8_isAt_32 : decode cX8_isAt 32 = .ok (.iconst 0, 1) := by decide +kernel
theorem dX8_isAt_33 : decode cX8_isAt 33 = .ok (.ireturn, 1) := by decide +kernel
theorem dX8_sign_0 : decode cX8_sign 0 = .ok (.aload_n 0, 1) := by decide +kernel
theorem dX8_sign_1 : decode cX8_sign 1 = .ok (.iload_n 1, 1) := by decide +kernel
theorem dX8_sign_2 : decode cX8_sign 2 = .ok (.iload_n 1, 1) := by decide +kernel
theorem dX8_sign_3 : decode cX8_sign 3 = .ok (.invokevirtual 154, 3) := by decide +kernel
theorem dX8_sign_6 : decode cX8_sign 6 = .ok (.istore_n 2, 1) := by decide +kernel
theorem dX8_sign_7 : decode cX8_sign 7 = .ok (.aload_n 0, 1) := by decide +kernel
theorem dX8_sign_8 : decode cX8_sign 8 = .ok (.dup, 1) := by decide +kernel
theorem dX8_sign_9 : decode cX8_sign 9 = .ok (.getfield 151, 3) := by decide +kernel
theorem dX8_sign_12 : decode cX8_sign 12 = .ok (.iload_n 2, 1) := by decide +kernel
theorem dX8_sign_13 : decode cX8_sign 13 = .ok (.ifCond .eq 7, 3) := by decide +kernel
theorem dX8_sign_16 : decode cX8_sign 16 = .ok (.iconst 1, 1) := by decide +kernel
theorem dX8_sign_17 : decode cX8_sign 17 = .ok (.goto 4, 3) := by decide +kernel
theorem dX8_sign_20 : decode cX8_sign 20 = .ok (.iconst 0, 1) := by decide +kernel
theorem dX8_sign_21 : decode cX8_sign 21 = .ok (.iadd, 1) := by decide +kernel
theorem dX8_sign_22 : decode cX8_sign 22 = .ok (.putfield 151, 3) := by decide +kernel
theorem dX8_sign_25 : decode cX8_sign 25 = .ok (.iload_n 2, 1) := by decide +kernel
theorem dX8_sign_26 : decode cX8_sign 26 = .ok (.ireturn, 1) := by decide +kernel
theorem dX8_numbered_0 : decode cX8_numbered 0 = .ok (.aload_n 0, 1) := by decide +kernel
theorem dX8_numbered_1 : decode cX8_numbered 1 = .ok (.getfield 151, 3) := by decide +kernel
theorem dX8_numbered_4 : decode cX8_numbered 4 = .ok (.istore_n 2, 1) := by decide +kernel
theorem dX8_numbered_5 : decode cX8_numbered 5 = .ok (.aload_n 0, 1) := by decide +kernel
theorem dX8_numbered_6 : decode cX8_numbered 6 = .ok (.getfield 25, 3) := by decide +kernel
theorem dX8_numbered_9 : decode cX8_numbered 9 = .ok (.iload_n 1, 1) := by decide +kernel
theorem dX8_numbered_10 : decode cX8_numbered 10 = .ok (.iconst 0, 1) := by decide +kernel
theorem dX8_numbered_11 : decode cX8_numbered 11 = .ok (.iastore, 1) := by decide +kernel
theorem dX8_numbered_12 : decode cX8_numbered 12 = .ok (.aload_n 0, 1) := by decide +kernel
theorem dX8_numbered_13 : decode cX8_numbered 13 = .ok (.bipush 48, 2) := by decide +kernel
theorem dX8_numbered_15 : decode cX8_numbered 15 = .ok (.bipush 57, 2) := by decide +kernel
theorem dX8_numbered_17 : decode cX8_numbered 17 = .ok (.invokevirtual 154, 3) := by decide +kernel
theorem dX8_numbered_20 : decode cX8_numbered 20 = .ok (.ifCond .eq 54, 3) := by decide +kernel
theorem dX8_numbered_23 : decode cX8_numbered 23 = .ok (.aload_n 0, 1) := by decide +kernel
theorem dX8_numbered_24 : decode cX8_numbered 24 = .ok (.getfield 151, 3) := by decide +kernel
theorem dX8_numbered_27 : decode cX8_numbered 27 = .ok (.iload_n 2, 1) := by decide +kernel
theorem dX8_numbered_28 : decode cX8_numbered 28 = .ok (.isub, 1) := by decide +kernel
theorem dX8_numbered_29 : decode cX8_numbered 29 = .ok (.iconst 3, 1) := by decide +kernel
theorem dX8_numbered_30 : decode cX8_numbered 30 = .ok (.if_icmp .ge 44, 3) := by decide +kernel
theorem dX8_numbered_33 : decode cX8_numbered 33 = .ok (.aload_n 0, 1) := by decide +kernel
theorem dX8_numbered_34 : decode cX8_numbered 34 = .ok (.getfield 25, 3) := by decide +kernel
theorem dX8_numbered_37 : decode cX8_numbered 37 = .ok (.iload_n 1, 1) := by decide +kernel
theorem dX8_numbered_38 : decode cX8_numbered 38 = .ok (.bipush 10, 2) := by decide +kernel
theorem dX8_numbered_40 : decode cX8_numbered 40 = .ok (.aload_n 0, 1) := by decide +kernel
theorem dX8_numbered_41 : decode cX8_numbered 41 = .ok (.getfield 25, 3) := by decide +kernel
theorem dX8_numbered_44 : decode cX8_numbered 44 = .ok (.iload_n 1, 1) := by decide +kernel
theorem dX8_numbered_45 : decode cX8_numbered 45 = .ok (.iaload, 1) := by decide +kernel
theorem dX8_numbered_46 : decode cX8_numbered 46 = .ok (.imul, 1) := by decide +kernel
theorem dX8_numbered_47 : decode cX8_numbered 47 = .ok (.aload_n 0, 1) := by decide +kernel
theorem dX8_numbered_48 : decode cX8_numbered 48 = .ok (.getfield 22, 3) := by decide +kernel
theorem dX8_numbered_51 : decode cX8_numbered 51 = .ok (.aload_n 0, 1) := by decide +kernel
theorem dX8_numbered_52 : decode cX8_numbered 52 = .ok (.getfield 151, 3) := by decide +kernel
theorem dX8_numbered_55 : decode cX8_numbered 55 = .ok (.iaload, 1) := by decide +kernel
theorem dX8_numbered_56 : decode cX8_numbered 56 = .ok (.iadd, 1) := by decide +kernel
theorem dX8_numbered_57 : decode cX8_numbered 57 = .ok (.bipush 48, 2) := by decide +kernel
theorem dX8_numbered_59 : decode cX8_numbered 59 = .ok (.isub, 1) := by decide +kernel
theorem dX8_numbered_60 : decode cX8_numbered 60 = .ok (.iastore, 1) := by decide +kernel
theorem dX8_numbered_61 : decode cX8_numbered 61 = .ok (.aload_n 0, 1) := by decide +kernel
theorem dX8_numbered_62 : decode cX8_numbered 62 = .ok (.dup, 1) := by decide +kernel
theorem dX8_numbered_63 : decode cX8_numbered 63 = .ok (.getfield 151, 3) := by decide +kernel
theorem dX8_numbered_66 : decode cX8_numbered 66 = .ok (.iconst 1, 1) := by decide +kernel
theorem dX8_numbered_67 : decode cX8_numbered 67 = .ok (.iadd, 1) := by decide +kernel
theorem dX8_numbered_68 : decode cX8_numbered 68 = .ok (.putfield 151, 3) := by decide +kernel
theorem dX8_numbered_71 : decode cX8_numbered 71 = .ok (.goto (-59), 3) := by decide +kernel
theorem dX8_numbered_74 : decode cX8_numbered 74 = .ok (.aload_n 0, 1) := by decide +kernel
theorem dX8_numbered_75 : decode cX8_numbered 75 = .ok (.getfield 151, 3) := by decide +kernel
theorem dX8_numbered_78 : decode cX8_numbered 78 = .ok (.iload_n 2, 1) := by decide +kernel
theorem dX8_numbered_79 : decode cX8_numbered 79 = .ok (.if_icmp .le 7, 3) := by decide +kernel
theorem dX8_numbered_82 : decode cX8_numbered 82 = .ok (.iconst 1, 1) := by decide +kernel
theorem dX8_numbered_83 : decode cX8_numbered 83 = .ok (.goto 4, 3) := by decide +kernel
theorem dX8_numbered_86 : decode cX8_numbered 86 = .ok (.iconst 0, 1) := by decide +kernel
theorem dX8_numbered_87 : decode cX8_numbered 87 = .ok (.ireturn, 1) := by decide +kernel
theorem dX8_numbersOf_0 : decode cX8_numbersOf 0 = .ok (.iload_n 0, 1) := by decide +kernel
theorem dX8_numbersOf_1 : decode cX8_numbersOf 1 = .ok (.lookupswitch 57 #[(99, 51), (106, 53), (112, 55), (116, 55), (119, 55)], 51) := by decide +kernel
theorem dX8_numbersOf_52 : decode cX8_numbersOf 52 = .ok (.iconst 5, 1) := by decide +kernel
theorem dX8_numbersOf_53 : decode cX8_numbersOf 53 = .ok (.ireturn, 1) := by decide +kernel
theorem dX8_numbersOf_54 : decode cX8_numbersOf 54 = .ok (.iconst 2, 1) := by decide +kernel
theorem dX8_numbersOf_55 : decode cX8_numbersOf 55 = .ok (.ireturn, 1) := by decide +kernel
theorem dX8_numbersOf_56 : decode cX8_numbersOf 56 = .ok (.iconst 1, 1) := by decide +kernel
theorem dX8_numbersOf_57 : decode cX8_numbersOf 57 = .ok (.ireturn, 1) := by decide +kernel
theorem dX8_numbersOf_58 : decode cX8_numbersOf 58 = .ok (.iconst 0, 1) := by decide +kernel
theorem dX8_numbersOf_59 : decode cX8_numbersOf 59 = .ok (.ireturn, 1) := by decide +kernel
theorem dX8_reads_0 : decode cX8_reads 0 = .ok (.aload_n 0, 1) := by decide +kernel
theorem dX8_reads_1 : decode cX8_reads 1 = .ok (.aload_n 0, 1) := by decide +kernel
theorem dX8_reads_2 : decode cX8_reads 2 = .ok (.bipush 33, 2) := by decide +kernel
theorem dX8_reads_4 : decode cX8_reads 4 = .ok (.bipush 126, 2) := by decide +kernel
theorem dX8_reads_6 : decode cX8_reads 6 = .ok (.invokevirtual 154, 3) := by decide +kernel
theorem dX8_reads_9 : decode cX8_reads 9 = .ok (.ifCond .eq 15, 3) := by decide +kernel
theorem dX8_reads_12 : decode cX8_reads 12 = .ok (.aload_n 0, 1) := by decide +kernel
theorem dX8_reads_13 : decode cX8_reads 13 = .ok (.getfield 22, 3) := by decide +kernel
theorem dX8_reads_16 : decode cX8_reads 16 = .ok (.aload_n 0, 1) := by decide +kernel
theorem dX8_reads_17 : decode cX8_reads 17 = .ok (.getfield 151, 3) := by decide +kernel
theorem dX8_reads_20 : decode cX8_reads 20 = .ok (.iaload, 1) := by decide +kernel
theorem dX8_reads_21 : decode cX8_reads 21 = .ok (.goto 4, 3) := by decide +kernel
theorem dX8_reads_24 : decode cX8_reads 24 = .ok (.iconst 0, 1) := by decide +kernel
theorem dX8_reads_25 : decode cX8_reads 25 = .ok (.putfield 157, 3) := by decide +kernel
theorem dX8_reads_28 : decode cX8_reads 28 = .ok (.aload_n 0, 1) := by decide +kernel
theorem dX8_reads_29 : decode cX8_reads 29 = .ok (.getfield 157, 3) := by decide +kernel
theorem dX8_reads_32 : decode cX8_reads 32 = .ok (.invokestatic 160, 3) := by decide +kernel
theorem dX8_reads_35 : decode cX8_reads 35 = .ok (.istore_n 1, 1) := by decide +kernel
theorem dX8_reads_36 : decode cX8_reads 36 = .ok (.iload_n 1, 1) := by decide +kernel
theorem dX8_reads_37 : decode cX8_reads 37 = .ok (.ifCond .ne 5, 3) := by decide +kernel
theorem dX8_reads_40 : decode cX8_reads 40 = .ok (.iconst 0, 1) := by decide +kernel
theorem dX8_reads_41 : decode cX8_reads 41 = .ok (.ireturn, 1) := by decide +kernel
theorem dX8_reads_42 : decode cX8_reads 42 = .ok (.aload_n 0, 1) := by decide +kernel
theorem dX8_reads_43 : decode cX8_reads 43 = .ok (.dup, 1) := by decide +kernel
theorem dX8_reads_44 : decode cX8_reads 44 = .ok (.getfield 151, 3) := by decide +kernel
theorem dX8_reads_47 : decode cX8_reads 47 = .ok (.iconst 1, 1) := by decide +kernel
theorem dX8_reads_48 : decode cX8_reads 48 = .ok (.iadd, 1) := by decide +kernel
theorem dX8_reads_49 : decode cX8_reads 49 = .ok (.putfield 151, 3) := by decide +kernel
theorem dX8_reads_52 : decode cX8_reads 52 = .ok (.aload_n 0, 1) := by decide +kernel
theorem dX8_reads_53 : decode cX8_reads 53 = .ok (.iconst 0, 1) := by decide +kernel
theorem dX8_reads_54 : decode cX8_reads 54 = .ok (.invokevirtual 163, 3) := by decide +kernel
theorem dX8_reads_57 : decode cX8_reads 57 = .ok (.istore_n 2, 1) := by decide +kernel
theorem dX8_reads_58 : decode cX8_reads 58 = .ok (.iconst 1, 1) := by decide +kernel
theorem dX8_reads_59 : decode cX8_reads 59 = .ok (.istore_n 3, 1) := by decide +kernel
theorem dX8_reads_60 : decode cX8_reads 60 = .ok (.iload_n 3, 1) := by decide +kernel
theorem dX8_reads_61 : decode cX8_reads 61 = .ok (.iload_n 1, 1) := by decide +kernel
theorem dX8_reads_62 : decode cX8_reads 62 = .ok (.if_icmp .ge 36, 3) := by decide +kernel
theorem dX8_reads_65 : decode cX8_reads 65 = .ok (.iload_n 2, 1) := by decide +kernel
theorem dX8_reads_66 : decode cX8_reads 66 = .ok (.ifCond .eq 32, 3) := by decide +kernel
theorem dX8_reads_69 : decode cX8_reads 69 = .ok (.aload_n 0, 1) := by decide +kernel
theorem dX8_reads_70 : decode cX8_reads 70 = .ok (.bipush 44, 2) := by decide +kernel
theorem dX8_reads_72 : decode cX8_reads 72 = .ok (.invokevirtual 166, 3) := by decide +kernel
theorem dX8_reads_75 : decode cX8_reads 75 = .ok (.ifCond .eq 15, 3) := by decide +kernel
theorem dX8_reads_78 : decode cX8_reads 78 = .ok (.aload_n 0, 1) := by decide +kernel
theorem dX8_reads_79 : decode cX8_reads 79 = .ok (.iload_n 3, 1) := by decide +kernel
theorem dX8_reads_80 : decode cX8_reads 80 = .ok (.invokevirtual 163, 3) := by decide +kernel
theorem dX8_reads_83 : decode cX8_reads 83 = .ok (.ifCond .eq 7, 3) := by decide +kernel
theorem dX8_reads_86 : decode cX8_reads 86 = .ok (.iconst 1, 1) := by decide +kernel
theorem dX8_reads_87 : decode cX8_reads 87 = .ok (.goto 4, 3) := by decide +kernel
theorem dX8_reads_90 : decode cX8_reads 90 = .ok (.iconst 0, 1) := by decide +kernel
theorem dX8_reads_91 : decode cX8_reads 91 = .ok (.istore_n 2, 1) := by decide +kernel
theorem dX8_reads_92 : decode cX8_reads 92 = .ok (.iinc 3 1, 3) := by decide +kernel
theorem dX8_reads_95 : decode cX8_reads 95 = .ok (.goto (-35), 3) := by decide +kernel
theorem dX8_reads_98 : decode cX8_reads 98 = .ok (.iload_n 2, 1) := by decide +kernel
theorem dX8_reads_99 : decode cX8_reads 99 = .ok (.ifCond .eq 16, 3) := by decide +kernel
theorem dX8_reads_102 : decode cX8_reads 102 = .ok (.aload_n 0, 1) := by decide +kernel
theorem dX8_reads_103 : decode cX8_reads 103 = .ok (.bipush 59, 2) := by decide +kernel
theorem dX8_reads_105 : decode cX8_reads 105 = .ok (.invokevirtual 166, 3) := by decide +kernel
theorem dX8_reads_108 : decode cX8_reads 108 = .ok (.ifCond .eq 7, 3) := by decide +kernel
theorem dX8_reads_111 : decode cX8_reads 111 = .ok (.iconst 1, 1) := by decide +kernel
theorem dX8_reads_112 : decode cX8_reads 112 = .ok (.goto 4, 3) := by decide +kernel
theorem dX8_reads_115 : decode cX8_reads 115 = .ok (.iconst 0, 1) := by decide +kernel
theorem dX8_reads_116 : decode cX8_reads 116 = .ok (.ireturn, 1) := by decide +kernel
theorem dX8_calls_0 : decode cX8_calls 0 = .ok (.aload_n 0, 1) := by decide +kernel
theorem dX8_calls_1 : decode cX8_calls 1 = .ok (.getfield 157, 3) := by decide +kernel
theorem dX8_calls_4 : decode cX8_calls 4 = .ok (.lookupswitch 112 #[(99, 44), (112, 90), (116, 79), (119, 101)], 44) := by decide +kernel
theorem dX8_calls_48 : decode cX8_calls 48 = .ok (.aload_n 0, 1) := by decide +kernel
theorem dX8_calls_49 : decode cX8_calls 49 = .ok (.aload_n 0, 1) := by decide +kernel
theorem dX8_calls_50 : decode cX8_calls 50 = .ok (.getfield 25, 3) := by decide +kernel
theorem dX8_calls_53 : decode cX8_calls 53 = .ok (.iconst 0, 1) := by decide +kernel
theorem dX8_calls_54 : decode cX8_calls 54 = .ok (.iaload, 1) := by decide +kernel
theorem dX8_calls_55 : decode cX8_calls 55 = .ok (.aload_n 0, 1) := by decide +kernel
theorem dX8_calls_56 : decode cX8_calls 56 = .ok (.getfield 25, 3) := by decide +kernel
theorem dX8_calls_59 : decode cX8_calls 59 = .ok (.iconst 1, 1) := by decide +kernel
theorem dX8_calls_60 : decode cX8_calls 60 = .ok (.iaload, 1) := by decide +kernel
theorem dX8_calls_61 : decode cX8_calls 61 = .ok (.aload_n 0, 1) := by decide +kernel
theorem dX8_calls_62 : decode cX8_calls 62 = .ok (.getfield 25, 3) := by decide +kernel
theorem dX8_calls_65 : decode cX8_calls 65 = .ok (.iconst 2, 1) := by decide +kernel
theorem dX8_calls_66 : decode cX8_calls 66 = .ok (.iaload, 1) := by decide +kernel
theorem dX8_calls_67 : decode cX8_calls 67 = .ok (.aload_n 0, 1) := by decide +kernel
theorem dX8_calls_68 : decode cX8_calls 68 = .ok (.getfield 25, 3) := by decide +kernel
theorem dX8_calls_71 : decode cX8_calls 71 = .ok (.iconst 3, 1) := by decide +kernel
theorem dX8_calls_72 : decode cX8_calls 72 = .ok (.iaload, 1) := by decide +kernel
theorem dX8_calls_73 : decode cX8_calls 73 = .ok (.aload_n 0, 1) := by decide +kernel
theorem dX8_calls_74 : decode cX8_calls 74 = .ok (.getfield 25, 3) := by decide +kernel
theorem dX8_calls_77 : decode cX8_calls 77 = .ok (.iconst 4, 1) := by decide +kernel
theorem dX8_calls_78 : decode cX8_calls 78 = .ok (.iaload, 1) := by decide +kernel
theorem dX8_calls_79 : decode cX8_calls 79 = .ok (.invokevirtual 169, 3) := by decide +kernel
theorem dX8_calls_82 : decode cX8_calls 82 = .ok (.ireturn, 1) := by decide +kernel
theorem dX8_calls_83 : decode cX8_calls 83 = .ok (.aload_n 0, 1) := by decide +kernel
theorem dX8_calls_84 : decode cX8_calls 84 = .ok (.aload_n 0, 1) := by decide +kernel
theorem dX8_calls_85 : decode cX8_calls 85 = .ok (.getfield 25, 3) := by decide +kernel
theorem dX8_calls_88 : decode cX8_calls 88 = .ok (.iconst 0, 1) := by decide +kernel
theorem dX8_calls_89 : decode cX8_calls 89 = .ok (.iaload, 1) := by decide +kernel
theorem dX8_calls_90 : decode cX8_calls 90 = .ok (.invokevirtual 173, 3) := by decide +kernel
theorem dX8_calls_93 : decode cX8_calls 93 = .ok (.ireturn, 1) := by decide +kernel
theorem dX8_calls_94 : decode cX8_calls 94 = .ok (.aload_n 0, 1) := by decide +kernel
theorem dX8_calls_95 : decode cX8_calls 95 = .ok (.aload_n 0, 1) := by decide +kernel
theorem dX8_calls_96 : decode cX8_calls 96 = .ok (.getfield 25, 3) := by decide +kernel
theorem dX8_calls_99 : decode cX8_calls 99 = .ok (.iconst 0, 1) := by decide +kernel
theorem dX8_calls_100 : decode cX8_calls 100 = .ok (.iaload, 1) := by decide +kernel
theorem dX8_calls_101 : decode cX8_calls 101 = .ok (.invokevirtual 176, 3) := by decide +kernel
theorem dX8_calls_104 : decode cX8_calls 104 = .ok (.ireturn, 1) := by decide +kernel
theorem dX8_calls_105 : decode cX8_calls 105 = .ok (.aload_n 0, 1) := by decide +kernel
theorem dX8_calls_106 : decode cX8_calls 106 = .ok (.aload_n 0, 1) := by decide +kernel
theorem dX8_calls_107 : decode cX8_calls 107 = .ok (.getfield 25, 3) := by decide +kernel
theorem dX8_calls_110 : decode cX8_calls 110 = .ok (.iconst 0, 1) := by decide +kernel
theorem dX8_calls_111 : decode cX8_calls 111 = .ok (.iaload, 1) := by decide +kernel
theorem dX8_calls_112 : decode cX8_calls 112 = .ok (.invokevirtual 179, 3) := by decide +kernel
theorem dX8_calls_115 : decode cX8_calls 115 = .ok (.ireturn, 1) := by decide +kernel
theorem dX8_calls_116 : decode cX8_calls 116 = .ok (.aload_n 0, 1) := by decide +kernel
theorem dX8_calls_117 : decode cX8_calls 117 = .ok (.aload_n 0, 1) := by decide +kernel
theorem dX8_calls_118 : decode cX8_calls 118 = .ok (.getfield 25, 3) := by decide +kernel
theorem dX8_calls_121 : decode cX8_calls 121 = .ok (.iconst 0, 1) := by decide +kernel
theorem dX8_calls_122 : decode cX8_calls 122 = .ok (.iaload, 1) := by decide +kernel
theorem dX8_calls_123 : decode cX8_calls 123 = .ok (.aload_n 0, 1) := by decide +kernel
theorem dX8_calls_124 : decode cX8_calls 124 = .ok (.getfield 25, 3) := by decide +kernel
theorem dX8_calls_127 : decode cX8_calls 127 = .ok (.iconst 1, 1) := by decide +kernel
theorem dX8_calls_128 : decode cX8_calls 128 = .ok (.iaload, 1) := by decide +kernel
theorem dX8_calls_129 : decode cX8_calls 129 = .ok (.invokevirtual 182, 3) := by decide +kernel
theorem dX8_calls_132 : decode cX8_calls 132 = .ok (.ireturn, 1) := by decide +kernel
theorem dX8_plays_0 : decode cX8_plays 0 = .ok (.aload_n 0, 1) := by decide +kernel
theorem dX8_plays_1 : decode cX8_plays 1 = .ok (.iconst 1, 1) := by decide +kernel
theorem dX8_plays_2 : decode cX8_plays 2 = .ok (.putfield 28, 3) := by decide +kernel
theorem dX8_plays_5 : decode cX8_plays 5 = .ok (.aload_n 0, 1) := by decide +kernel
theorem dX8_plays_6 : decode cX8_plays 6 = .ok (.iconst 0, 1) := by decide +kernel
theorem dX8_plays_7 : decode cX8_plays 7 = .ok (.putfield 151, 3) := by decide +kernel
theorem dX8_plays_10 : decode cX8_plays 10 = .ok (.aload_n 0, 1) := by decide +kernel
theorem dX8_plays_11 : decode cX8_plays 11 = .ok (.iconst 0, 1) := by decide +kernel
theorem dX8_plays_12 : decode cX8_plays 12 = .ok (.putfield 185, 3) := by decide +kernel
theorem dX8_plays_15 : decode cX8_plays 15 = .ok (.aload_n 0, 1) := by decide +kernel
theorem dX8_plays_16 : decode cX8_plays 16 = .ok (.iconst 0, 1) := by decide +kernel
theorem dX8_plays_17 : decode cX8_plays 17 = .ok (.putfield 188, 3) := by decide +kernel
theorem dX8_plays_20 : decode cX8_plays 20 = .ok (.iconst 1, 1) := by decide +kernel
theorem dX8_plays_21 : decode cX8_plays 21 = .ok (.istore_n 1, 1) := by decide +kernel
theorem dX8_plays_22 : decode cX8_plays 22 = .ok (.aload_n 0, 1) := by decide +kernel
theorem dX8_plays_23 : decode cX8_plays 23 = .ok (.getfield 151, 3) := by decide +kernel
theorem dX8_plays_26 : decode cX8_plays 26 = .ok (.aload_n 0, 1) := by decide +kernel
theorem dX8_plays_27 : decode cX8_plays 27 = .ok (.getfield 148, 3) := by decide +kernel
theorem dX8_plays_30 : decode cX8_plays 30 = .ok (.if_icmp .ge 94, 3) := by decide +kernel
theorem dX8_plays_33 : decode cX8_plays 33 = .ok (.iload_n 1, 1) := by decide +kernel
theorem dX8_plays_34 : decode cX8_plays 34 = .ok (.ifCond .eq 90, 3) := by decide +kernel
theorem dX8_plays_37 : decode cX8_plays 37 = .ok (.aload_n 0, 1) := by decide +kernel
theorem dX8_plays_38 : decode cX8_plays 38 = .ok (.aload_n 0, 1) := by decide +kernel
theorem dX8_plays_39 : decode cX8_plays 39 = .ok (.getfield 151, 3) := by decide +kernel
theorem dX8_plays_42 : decode cX8_plays 42 = .ok (.putfield 185, 3) := by decide +kernel
theorem dX8_plays_45 : decode cX8_plays 45 = .ok (.aload_n 0, 1) := by decide +kernel
theorem dX8_plays_46 : decode cX8_plays 46 = .ok (.invokevirtual 191, 3) := by decide +kernel
theorem dX8_plays_49 : decode cX8_plays 49 = .ok (.istore_n 2, 1) := by decide +kernel
theorem dX8_plays_50 : decode cX8_plays 50 = .ok (.iload_n 2, 1) := by decide +kernel
theorem dX8_plays_51 : decode cX8_plays 51 = .ok (.ifCond .eq 10, 3) := by decide +kernel
theorem dX8_plays_54 : decode cX8_plays 54 = .ok (.aload_n 0, 1) := by decide +kernel
theorem dX8_plays_55 : decode cX8_plays 55 = .ok (.invokevirtual 195, 3) := by decide +kernel
theorem dX8_plays_58 : decode cX8_plays 58 = .ok (.goto 4, 3) := by decide +kernel
theorem dX8_plays_61 : decode cX8_plays 61 = .ok (.iconst 0, 1) := by decide +kernel
theorem dX8_plays_62 : decode cX8_plays 62 = .ok (.istore_n 3, 1) := by decide +kernel
theorem dX8_plays_63 : decode cX8_plays 63 = .ok (.iload_n 2, 1) := by decide +kernel
theorem dX8_plays_64 : decode cX8_plays 64 = .ok (.ifCond .eq 11, 3) := by decide +kernel
theorem dX8_plays_67 : decode cX8_plays 67 = .ok (.iload_n 3, 1) := by decide +kernel
theorem dX8_plays_68 : decode cX8_plays 68 = .ok (.ifCond .lt 7, 3) := by decide +kernel
theorem dX8_plays_71 : decode cX8_plays 71 = .ok (.iconst 1, 1) := by decide +kernel
theorem dX8_plays_72 : decode cX8_plays 72 = .ok (.goto 4, 3) := by decide +kernel
theorem dX8_plays_75 : decode cX8_plays 75 = .ok (.iconst 0, 1) := by decide +kernel
theorem dX8_plays_76 : decode cX8_plays 76 = .ok (.istore_n 1, 1) := by decide +kernel
theorem dX8_plays_77 : decode cX8_plays 77 = .ok (.aload_n 0, 1) := by decide +kernel
theorem dX8_plays_78 : decode cX8_plays 78 = .ok (.iload_n 2, 1) := by decide +kernel
theorem dX8_plays_79 : decode cX8_plays 79 = .ok (.ifCond .eq 7, 3) := by decide +kernel
theorem dX8_plays_82 : decode cX8_plays 82 = .ok (.iconst 2, 1) := by decide +kernel
theorem dX8_plays_83 : decode cX8_plays 83 = .ok (.goto 4, 3) := by decide +kernel
theorem dX8_plays_86 : decode cX8_plays 86 = .ok (.iconst 1, 1) := by decide +kernel
theorem dX8_plays_87 : decode cX8_plays 87 = .ok (.putfield 198, 3) := by decide +kernel
theorem dX8_plays_90 : decode cX8_plays 90 = .ok (.aload_n 0, 1) := by decide +kernel
theorem dX8_plays_91 : decode cX8_plays 91 = .ok (.iload_n 2, 1) := by decide +kernel
theorem dX8_plays_92 : decode cX8_plays 92 = .ok (.ifCond .eq 7, 3) := by decide +kernel
theorem dX8_plays_95 : decode cX8_plays 95 = .ok (.iload_n 3, 1) := by decide +kernel
theorem dX8_plays_96 : decode cX8_plays 96 = .ok (.goto 12, 3) := by decide +kernel
theorem dX8_plays_99 : decode cX8_plays 99 = .ok (.aload_n 0, 1) := by decide +kernel
theorem dX8_plays_100 : decode cX8_plays 100 = .ok (.getfield 151, 3) := by decide +kernel
theorem dX8_plays_103 : decode cX8_plays 103 = .ok (.aload_n 0, 1) := by decide +kernel
theorem dX8_plays_104 : decode cX8_plays 104 = .ok (.getfield 185, 3) := by decide +kernel
theorem dX8_plays_107 : decode cX8_plays 107 = .ok (.isub, 1) := by decide +kernel
theorem dX8_plays_108 : decode cX8_plays 108 = .ok (.putfield 201, 3) := by decide +kernel
theorem dX8_plays_111 : decode cX8_plays 111 = .ok (.aload_n 0, 1) := by decide +kernel
theorem dX8_plays_112 : decode cX8_plays 112 = .ok (.dup, 1) := by decide +kernel
theorem dX8_plays_113 : decode cX8_plays 113 = .ok (.getfield 188, 3) := by decide +kernel
theorem dX8_plays_116 : decode cX8_plays 116 = .ok (.iconst 1, 1) := by decide +kernel
theorem dX8_plays_117 : decode cX8_plays 117 = .ok (.iadd, 1) := by decide +kernel
theorem dX8_plays_118 : decode cX8_plays 118 = .ok (.putfield 188, 3) := by decide +kernel
theorem dX8_plays_121 : decode cX8_plays 121 = .ok (.goto (-99), 3) := by decide +kernel
theorem dX8_plays_124 : decode cX8_plays 124 = .ok (.aload_n 0, 1) := by decide +kernel
theorem dX8_plays_125 : decode cX8_plays 125 = .ok (.iconst 0, 1) := by decide +kernel
theorem dX8_plays_126 : decode cX8_plays 126 = .ok (.putfield 28, 3) := by decide +kernel
theorem dX8_plays_129 : decode cX8_plays 129 = .ok (.iload_n 1, 1) := by decide +kernel
theorem dX8_plays_130 : decode cX8_plays 130 = .ok (.ireturn, 1) := by decide +kernel
theorem dX8_fault_0 : decode cX8_fault 0 = .ok (.iload_n 1, 1) := by decide +kernel
theorem dX8_fault_1 : decode cX8_fault 1 = .ok (.iconst 0, 1) := by decide +kernel
theorem dX8_fault_2 : decode cX8_fault 2 = .ok (.iconst 2, 1) := by decide +kernel
theorem dX8_fault_3 : decode cX8_fault 3 = .ok (.invokestatic 80, 3) := by decide +kernel
theorem dX8_fault_6 : decode cX8_fault 6 = .ok (.ifCond .ne 6, 3) := by decide +kernel
theorem dX8_fault_9 : decode cX8_fault 9 = .ok (.ldc 88, 2) := by decide +kernel
theorem dX8_fault_11 : decode cX8_fault 11 = .ok (.ireturn, 1) := by decide +kernel
theorem dX8_fault_12 : decode cX8_fault 12 = .ok (.aload_n 0, 1) := by decide +kernel
theorem dX8_fault_13 : decode cX8_fault 13 = .ok (.getfield 7, 3) := by decide +kernel
theorem dX8_fault_16 : decode cX8_fault 16 = .ok (.aload_n 0, 1) := by decide +kernel
theorem dX8_fault_17 : decode cX8_fault 17 = .ok (.getfield 16, 3) := by decide +kernel
theorem dX8_fault_20 : decode cX8_fault 20 = .ok (.invokestatic 137, 3) := by decide +kernel
theorem dX8_fault_23 : decode cX8_fault 23 = .ok (.aload_n 0, 1) := by decide +kernel
theorem dX8_fault_24 : decode cX8_fault 24 = .ok (.invokevirtual 204, 3) := by decide +kernel
theorem dX8_fault_27 : decode cX8_fault 27 = .ok (.istore_n 2, 1) := by decide +kernel
theorem dX8_fault_28 : decode cX8_fault 28 = .ok (.aload_n 0, 1) := by decide +kernel
theorem dX8_fault_29 : decode cX8_fault 29 = .ok (.getfield 16, 3) := by decide +kernel
theorem dX8_fault_32 : decode cX8_fault 32 = .ok (.aload_n 0, 1) := by decide +kernel
theorem dX8_fault_33 : decode cX8_fault 33 = .ok (.getfield 7, 3) := by decide +kernel
theorem dX8_fault_36 : decode cX8_fault 36 = .ok (.invokestatic 137, 3) := by decide +kernel
theorem dX8_fault_39 : decode cX8_fault 39 = .ok (.iload_n 2, 1) := by decide +kernel
theorem dX8_fault_40 : decode cX8_fault 40 = .ok (.ifCond .eq 8, 3) := by decide +kernel
theorem dX8_fault_43 : decode cX8_fault 43 = .ok (.ldc 109, 2) := by decide +kernel
theorem dX8_fault_45 : decode cX8_fault 45 = .ok (.goto 30, 3) := by decide +kernel
theorem dX8_fault_48 : decode cX8_fault 48 = .ok (.iload_n 1, 1) := by decide +kernel
theorem dX8_fault_49 : decode cX8_fault 49 = .ok (.ifCond .ne 10, 3) := by decide +kernel
theorem dX8_fault_52 : decode cX8_fault 52 = .ok (.aload_n 0, 1) := by decide +kernel
theorem dX8_fault_53 : decode cX8_fault 53 = .ok (.getfield 185, 3) := by decide +kernel
theorem dX8_fault_56 : decode cX8_fault 56 = .ok (.goto 19, 3) := by decide +kernel
theorem dX8_fault_59 : decode cX8_fault 59 = .ok (.iload_n 1, 1) := by decide +kernel
theorem dX8_fault_60 : decode cX8_fault 60 = .ok (.iconst 1, 1) := by decide +kernel
theorem dX8_fault_61 : decode cX8_fault 61 = .ok (.if_icmp .ne 10, 3) := by decide +kernel
theorem dX8_fault_64 : decode cX8_fault 64 = .ok (.aload_n 0, 1) := by decide +kernel
theorem dX8_fault_65 : decode cX8_fault 65 = .ok (.getfield 198, 3) := by decide +kernel
theorem dX8_fault_68 : decode cX8_fault 68 = .ok (.goto 7, 3) := by decide +kernel
theorem dX8_fault_71 : decode cX8_fault 71 = .ok (.aload_n 0, 1) := by decide +kernel
theorem dX8_fault_72 : decode cX8_fault 72 = .ok (.getfield 201, 3) := by decide +kernel
theorem dX8_fault_75 : decode cX8_fault 75 = .ok (.ireturn, 1) := by decide +kernel
theorem dX8_play_0 : decode cX8_play 0 = .ok (.aload_n 0, 1) := by decide +kernel
theorem dX8_play_1 : decode cX8_play 1 = .ok (.getfield 7, 3) := by decide +kernel
theorem dX8_play_4 : decode cX8_play 4 = .ok (.aload_n 0, 1) := by decide +kernel
theorem dX8_play_5 : decode cX8_play 5 = .ok (.getfield 16, 3) := by decide +kernel
theorem dX8_play_8 : decode cX8_play 8 = .ok (.invokestatic 137, 3) := by decide +kernel
theorem dX8_play_11 : decode cX8_play 11 = .ok (.aload_n 0, 1) := by decide +kernel
theorem dX8_play_12 : decode cX8_play 12 = .ok (.invokevirtual 204, 3) := by decide +kernel
theorem dX8_play_15 : decode cX8_play 15 = .ok (.istore_n 1, 1) := by decide +kernel
theorem dX8_play_16 : decode cX8_play 16 = .ok (.aload_n 0, 1) := by decide +kernel
theorem dX8_play_17 : decode cX8_play 17 = .ok (.getfield 16, 3) := by decide +kernel
theorem dX8_play_20 : decode cX8_play 20 = .ok (.aload_n 0, 1) := by decide +kernel
theorem dX8_play_21 : decode cX8_play 21 = .ok (.getfield 7, 3) := by decide +kernel
theorem dX8_play_24 : decode cX8_play 24 = .ok (.invokestatic 137, 3) := by decide +kernel
theorem dX8_play_27 : decode cX8_play 27 = .ok (.iload_n 1, 1) := by decide +kernel
theorem dX8_play_28 : decode cX8_play 28 = .ok (.ifCond .ne 6, 3) := by decide +kernel
theorem dX8_play_31 : decode cX8_play 31 = .ok (.ldc 108, 2) := by decide +kernel
theorem dX8_play_33 : decode cX8_play 33 = .ok (.ireturn, 1) := by decide +kernel
theorem dX8_play_34 : decode cX8_play 34 = .ok (.aload_n 0, 1) := by decide +kernel
theorem dX8_play_35 : decode cX8_play 35 = .ok (.invokevirtual 90, 3) := by decide +kernel
theorem dX8_play_38 : decode cX8_play 38 = .ok (.aload_n 0, 1) := by decide +kernel
theorem dX8_play_39 : decode cX8_play 39 = .ok (.invokevirtual 204, 3) := by decide +kernel
theorem dX8_play_42 : decode cX8_play 42 = .ok (.ifCond .eq 10, 3) := by decide +kernel
theorem dX8_play_45 : decode cX8_play 45 = .ok (.aload_n 0, 1) := by decide +kernel
theorem dX8_play_46 : decode cX8_play 46 = .ok (.getfield 188, 3) := by decide +kernel
theorem dX8_play_49 : decode cX8_play 49 = .ok (.goto 5, 3) := by decide +kernel
theorem dX8_play_52 : decode cX8_play 52 = .ok (.ldc 109, 2) := by decide +kernel
theorem dX8_play_54 : decode cX8_play 54 = .ok (.ireturn, 1) := by decide +kernel
theorem dJxe99ae_isNaN_b9ae7_0 : decode cJxe99ae_isNaN_b9ae7 0 = .ok (.dload_n 0, 1) := by decide +kernel
theorem dJxe99ae_isNaN_b9ae7_1 : decode cJxe99ae_isNaN_b9ae7 1 = .ok (.dload_n 0, 1) := by decide +kernel
theorem dJxe99ae_isNaN_b9ae7_2 : decode cJxe99ae_isNaN_b9ae7 2 = .ok (.dcmp .l, 1) := by decide +kernel
theorem dJxe99ae_isNaN_b9ae7_3 : decode cJxe99ae_isNaN_b9ae7 3 = .ok (.ifCond .eq 7, 3) := by decide +kernel
theorem dJxe99ae_isNaN_b9ae7_6 : decode cJxe99ae_isNaN_b9ae7 6 = .ok (.iconst 1, 1) := by decide +kernel
theorem dJxe99ae_isNaN_b9ae7_7 : decode cJxe99ae_isNaN_b9ae7 7 = .ok (.goto 4, 3) := by decide +kernel
theorem dJxe99ae_isNaN_b9ae7_10 : decode cJxe99ae_isNaN_b9ae7 10 = .ok (.iconst 0, 1) := by decide +kernel
theorem dJxe99ae_isNaN_b9ae7_11 : decode cJxe99ae_isNaN_b9ae7 11 = .ok (.ireturn, 1) := by decide +kernel
theorem dJxe99ae_doubleToLongBits_ccdee_0 : decode cJxe99ae_doubleToLongBits_ccdee 0 = .ok (.dload_n 0, 1) := by decide +kernel
theorem dJxe99ae_doubleToLongBits_ccdee_1 : decode cJxe99ae_doubleToLongBits_ccdee 1 = .ok (.invokestatic 122, 3) := by decide +kernel
theorem dJxe99ae_doubleToLongBits_ccdee_4 : decode cJxe99ae_doubleToLongBits_ccdee 4 = .ok (.ifCond .ne 8, 3) := by decide +kernel
theorem dJxe99ae_doubleToLongBits_ccdee_7 : decode cJxe99ae_doubleToLongBits_ccdee 7 = .ok (.dload_n 0, 1) := by decide +kernel
theorem dJxe99ae_doubleToLongBits_ccdee_8 : decode cJxe99ae_doubleToLongBits_ccdee 8 = .ok (.invokestatic 134, 3) := by decide +kernel
theorem dJxe99ae_doubleToLongBits_ccdee_11 : decode cJxe99ae_doubleToLongBits_ccdee 11 = .ok (.lreturn, 1) := by decide +kernel
theorem dJxe99ae_doubleToLongBits_ccdee_12 : decode cJxe99ae_doubleToLongBits_ccdee 12 = .ok (.ldc2_w 137, 3) := by decide +kernel
theorem dJxe99ae_doubleToLongBits_ccdee_15 : decode cJxe99ae_doubleToLongBits_ccdee 15 = .ok (.lreturn, 1) := by decide +kernel
theorem dJ6_bitCount_0f7a4_0 : decode cJ6_bitCount_0f7a4 0 = .ok (.iload_n 0, 1) := by decide +kernel
theorem dJ6_bitCount_0f7a4_1 : decode cJ6_bitCount_0f7a4 1 = .ok (.iload_n 0, 1) := by decide +kernel
theorem dJ6_bitCount_0f7a4_2 : decode cJ6_bitCount_0f7a4 2 = .ok (.iconst 1, 1) := by decide +kernel
theorem dJ6_bitCount_0f7a4_3 : decode cJ6_bitCount_0f7a4 3 = .ok (.iushr, 1) := by decide +kernel
theorem dJ6_bitCount_0f7a4_4 : decode cJ6_bitCount_0f7a4 4 = .ok (.ldc_w 265, 3) := by decide +kernel
theorem dJ6_bitCount_0f7a4_7 : decode cJ6_bitCount_0f7a4 7 = .ok (.iand, 1) := by decide +kernel
theorem dJ6_bitCount_0f7a4_8 : decode cJ6_bitCount_0f7a4 8 = .ok (.isub, 1) := by decide +kernel
theorem dJ6_bitCount_0f7a4_9 : decode cJ6_bitCount_0f7a4 9 = .ok (.istore_n 0, 1) := by decide +kernel
theorem dJ6_bitCount_0f7a4_10 : decode cJ6_bitCount_0f7a4 10 = .ok (.iload_n 0, 1) := by decide +kernel
theorem dJ6_bitCount_0f7a4_11 : decode cJ6_bitCount_0f7a4 11 = .ok (.ldc_w 266, 3) := by decide +kernel
theorem dJ6_bitCount_0f7a4_14 : decode cJ6_bitCount_0f7a4 14 = .ok (.iand, 1) := by decide +kernel
theorem dJ6_bitCount_0f7a4_15 : decode cJ6_bitCount_0f7a4 15 = .ok (.iload_n 0, 1) := by decide +kernel
theorem dJ6_bitCount_0f7a4_16 : decode cJ6_bitCount_0f7a4 16 = .ok (.iconst 2, 1) := by decide +kernel
theorem dJ6_bitCount_0f7a4_17 : decode cJ6_bitCount_0f7a4 17 = .ok (.iushr, 1) := by decide +kernel
theorem dJ6_bitCount_0f7a4_18 : decode cJ6_bitCount_0f7a4 18 = .ok (.ldc_w 266, 3) := by decide +kernel
theorem dJ6_bitCount_0f7a4_21 : decode cJ6_bitCount_0f7a4 21 = .ok (.iand, 1) := by decide +kernel
theorem dJ6_bitCount_0f7a4_22 : decode cJ6_bitCount_0f7a4 22 = .ok (.iadd, 1) := by decide +kernel
theorem dJ6_bitCount_0f7a4_23 : decode cJ6_bitCount_0f7a4 23 = .ok (.istore_n 0, 1) := by decide +kernel
theorem dJ6_bitCount_0f7a4_24 : decode cJ6_bitCount_0f7a4 24 = .ok (.iload_n 0, 1) := by decide +kernel
theorem dJ6_bitCount_0f7a4_25 : decode cJ6_bitCount_0f7a4 25 = .ok (.iload_n 0, 1) := by decide +kernel
theorem dJ6_bitCount_0f7a4_26 : decode cJ6_bitCount_0f7a4 26 = .ok (.iconst 4, 1) := by decide +kernel
theorem dJ6_bitCount_0f7a4_27 : decode cJ6_bitCount_0f7a4 27 = .ok (.iushr, 1) := by decide +kernel
theorem dJ6_bitCount_0f7a4_28 : decode cJ6_bitCount_0f7a4 28 = .ok (.iadd, 1) := by decide +kernel
theorem dJ6_bitCount_0f7a4_29 : decode cJ6_bitCount_0f7a4 29 = .ok (.ldc_w 267, 3) := by decide +kernel
theorem dJ6_bitCount_0f7a4_32 : decode cJ6_bitCount_0f7a4 32 = .ok (.iand, 1) := by decide +kernel
theorem dJ6_bitCount_0f7a4_33 : decode cJ6_bitCount_0f7a4 33 = .ok (.istore_n 0, 1) := by decide +kernel
theorem dJ6_bitCount_0f7a4_34 : decode cJ6_bitCount_0f7a4 34 = .ok (.iload_n 0, 1) := by decide +kernel
theorem dJ6_bitCount_0f7a4_35 : decode cJ6_bitCount_0f7a4 35 = .ok (.iload_n 0, 1) := by decide +kernel
theorem dJ6_bitCount_0f7a4_36 : decode cJ6_bitCount_0f7a4 36 = .ok (.bipush 8, 2) := by decide +kernel
theorem dJ6_bitCount_0f7a4_38 : decode cJ6_bitCount_0f7a4 38 = .ok (.iushr, 1) := by decide +kernel
theorem dJ6_bitCount_0f7a4_39 : decode cJ6_bitCount_0f7a4 39 = .ok (.iadd, 1) := by decide +kernel
theorem dJ6_bitCount_0f7a4_40 : decode cJ6_bitCount_0f7a4 40 = .ok (.istore_n 0, 1) := by decide +kernel
theorem dJ6_bitCount_0f7a4_41 : decode cJ6_bitCount_0f7a4 41 = .ok (.iload_n 0, 1) := by decide +kernel
theorem dJ6_bitCount_0f7a4_42 : decode cJ6_bitCount_0f7a4 42 = .ok (.iload_n 0, 1) := by decide +kernel
theorem dJ6_bitCount_0f7a4_43 : decode cJ6_bitCount_0f7a4 43 = .ok (.bipush 16, 2) := by decide +kernel
theorem dJ6_bitCount_0f7a4_45 : decode cJ6_bitCount_0f7a4 45 = .ok (.iushr, 1) := by decide +kernel
theorem dJ6_bitCount_0f7a4_46 : decode cJ6_bitCount_0f7a4 46 = .ok (.iadd, 1) := by decide +kernel
theorem dJ6_bitCount_0f7a4_47 : decode cJ6_bitCount_0f7a4 47 = .ok (.istore_n 0, 1) := by decide +kernel
theorem dJ6_bitCount_0f7a4_48 : decode cJ6_bitCount_0f7a4 48 = .ok (.iload_n 0, 1) := by decide +kernel
theorem dJ6_bitCount_0f7a4_49 : decode cJ6_bitCount_0f7a4 49 = .ok (.bipush 63, 2) := by decide +kernel
theorem dJ6_bitCount_0f7a4_51 : decode cJ6_bitCount_0f7a4 51 = .ok (.iand, 1) := by decide +kernel
theorem dJ6_bitCount_0f7a4_52 : decode cJ6_bitCount_0f7a4 52 = .ok (.ireturn, 1) := by decide +kernel
theorem dJ9_max_7cf53_0 : decode cJ9_max_7cf53 0 = .ok (.iload_n 0, 1) := by decide +kernel
theorem dJ9_max_7cf53_1 : decode cJ9_max_7cf53 1 = .ok (.iload_n 1, 1) := by decide +kernel
theorem dJ9_max_7cf53_2 : decode cJ9_max_7cf53 2 = .ok (.if_icmp .lt 7, 3) := by decide +kernel
theorem dJ9_max_7cf53_5 : decode cJ9_max_7cf53 5 = .ok (.iload_n 0, 1) := by decide +kernel
theorem dJ9_max_7cf53_6 : decode cJ9_max_7cf53 6 = .ok (.goto 4, 3) := by decide +kernel
theorem dJ9_max_7cf53_9 : decode cJ9_max_7cf53 9 = .ok (.iload_n 1, 1) := by decide +kernel
theorem dJ9_max_7cf53_10 : decode cJ9_max_7cf53 10 = .ok (.ireturn, 1) := by decide +kernel
theorem dL_law_0 : decode cL_law 0 = .ok (.new 7, 3) := by decide +kernel
theorem dL_law_3 : decode cL_law 3 = .ok (.dup, 1) := by decide +kernel
theorem dL_law_4 : decode cL_law 4 = .ok (.invokespecial 9, 3) := by decide +kernel
theorem dL_law_7 : decode cL_law 7 = .ok (.astore_n 1, 1) := by decide +kernel
theorem dL_law_8 : decode cL_law 8 = .ok (.new 10, 3) := by decide +kernel
theorem dL_law_11 : decode cL_law 11 = .ok (.dup, 1) := by decide +kernel
theorem dL_law_12 : decode cL_law 12 = .ok (.invokespecial 12, 3) := by decide +kernel
theorem dL_law_15 : decode cL_law 15 = .ok (.astore_n 2, 1) := by decide +kernel
theorem dL_law_16 : decode cL_law 16 = .ok (.iconst 0, 1) := by decide +kernel
theorem dL_law_17 : decode cL_law 17 = .ok (.istore_n 3, 1) := by decide +kernel
theorem dL_law_18 : decode cL_law 18 = .ok (.iload_n 3, 1) := by decide +kernel
theorem dL_law_19 : decode cL_law 19 = .ok (.aload_n 0, 1) := by decide +kernel
theorem dL_law_20 : decode cL_law 20 = .ok (.arraylength, 1) := by decide +kernel
theorem dL_law_21 : decode cL_law 21 = .ok (.bipush 6, 2) := by decide +kernel
theorem dL_law_23 : decode cL_law 23 = .ok (.isub, 1) := by decide +kernel
theorem dL_law_24 : decode cL_law 24 = .ok (.if_icmp .gt 642, 3) := by decide +kernel
theorem dL_law_27 : decode cL_law 27 = .ok (.aload_n 0, 1) := by decide +kernel
theorem dL_law_28 : decode cL_law 28 = .ok (.iload_n 3, 1) := by decide +kernel
theorem dL_law_29 : decode cL_law 29 = .ok (.iaload, 1) := by decide +kernel
theorem dL_law_30 : decode cL_law 30 = .ok (.bipush 31, 2) := by decide +kernel
theorem dL_law_32 : decode cL_law 32 = .ok (.iand, 1) := by decide +kernel
theorem dL_law_33 : decode cL_law 33 = .ok (.tableswitch 627 0 19 #[95, 158, 181, 204, 227, 250, 283, 316, 349, 383, 416, 439, 482, 505, 519, 542, 555, 578, 591, 614], 95) := by decide +kernel
theorem dL_law_128 : decode cL_law 128 = .ok (.aload_n 1, 1) := by decide +kernel
theorem dL_law_129 : decode cL_law 129 = .ok (.aload_n 0, 1) := by decide +kernel
theorem dL_law_130 : decode cL_law 130 = .ok (.iload_n 3, 1) := by decide +kernel
theorem dL_law_131 : decode cL_law 131 = .ok (.iconst 1, 1) := by decide +kernel
theorem dL_law_132 : decode cL_law 132 = .ok (.iadd, 1) := by decide +kernel
theorem dL_law_133 : decode cL_law 133 = .ok (.iaload, 1) := by decide +kernel
theorem dL_law_134 : decode cL_law 134 = .ok (.aload_n 0, 1) := by decide +kernel
theorem dL_law_135 : decode cL_law 135 = .ok (.iload_n 3, 1) := by decide +kernel
theorem dL_law_136 : decode cL_law 136 = .ok (.iconst 2, 1) := by decide +kernel
theorem dL_law_137 : decode cL_law 137 = .ok (.iadd, 1) := by decide +kernel
theorem dL_law_138 : decode cL_law 138 = .ok (.iaload, 1) := by decide +kernel
theorem dL_law_139 : decode cL_law 139 = .ok (.aload_n 0, 1) := by decide +kernel
theorem dL_law_140 : decode cL_law 140 = .ok (.iload_n 3, 1) := by decide +kernel
theorem dL_law_141 : decode cL_law 141 = .ok (.iconst 3, 1) := by decide +kernel
theorem dL_law_142 : decode cL_law 142 = .ok (.iadd, 1) := by decide +kernel
theorem dL_law_143 : decode cL_law 143 = .ok (.iaload, 1) := by decide +kernel
theorem dL_law_144 : decode cL_law 144 = .ok (.aload_n 0, 1) := by decide +kernel
theorem dL_law_145 : decode cL_law 145 = .ok (.iload_n 3, 1) := by decide +kernel
theorem dL_law_146 : decode cL_law 146 = .ok (.iconst 4, 1) := by decide +kernel
theorem dL_law_147 : decode cL_law 147 = .ok (.iadd, 1) := by decide +kernel
theorem dL_law_148 : decode cL_law 148 = .ok (.iaload, 1) := by decide +kernel
theorem dL_law_149 : decode cL_law 149 = .ok (.aload_n 0, 1) := by decide +kernel
theorem dL_law_150 : decode cL_law 150 = .ok (.iload_n 3, 1) := by decide +kernel
theorem dL_law_151 : decode cL_law 151 = .ok (.iconst 5, 1) := by decide +kernel
theorem dL_law_152 : decode cL_law 152 = .ok (.iadd, 1) := by decide +kernel
theorem dL_law_153 : decode cL_law 153 = .ok (.iaload, 1) := by decide +kernel
theorem dL_law_154 : decode cL_law 154 = .ok (.invokevirtual 13, 3) := by decide +kernel
theorem dL_law_157 : decode cL_law 157 = .ok (.aload_n 2, 1) := by decide +kernel
theorem dL_law_158 : decode cL_law 158 = .ok (.aload_n 0, 1) := by decide +kernel
theorem dL_law_159 : decode cL_law 159 = .ok (.iload_n 3, 1) := by decide +kernel
theorem dL_law_160 : decode cL_law 160 = .ok (.iconst 1, 1) := by decide +kernel
theorem dL_law_161 : decode cL_law 161 = .ok (.iadd, 1) := by decide +kernel
theorem dL_law_162 : decode cL_law 162 = .ok (.iaload, 1) := by decide +kernel
theorem dL_law_163 : decode cL_law 163 = .ok (.aload_n 0, 1) := by decide +kernel
theorem dL_law_164 : decode cL_law 164 = .ok (.iload_n 3, 1) := by decide +kernel
theorem dL_law_165 : decode cL_law 165 = .ok (.iconst 2, 1) := by decide +kernel
theorem dL_law_166 : decode cL_law 166 = .ok (.iadd, 1) := by decide +kernel
theorem dL_law_167 : decode cL_law 167 = .ok (.iaload, 1) := by decide +kernel
theorem dL_law_168 : decode cL_law 168 = .ok (.aload_n 0, 1) := by decide +kernel
theorem dL_law_169 : decode cL_law 169 = .ok (.iload_n 3, 1) := by decide +kernel
theorem dL_law_170 : decode cL_law 170 = .ok (.iconst 3, 1) := by decide +kernel
theorem dL_law_171 : decode cL_law 171 = .ok (.iadd, 1) := by decide +kernel
theorem dL_law_172 : decode cL_law 172 = .ok (.iaload, 1) := by decide +kernel
theorem dL_law_173 : decode cL_law 173 = .ok (.aload_n 0, 1) := by decide +kernel
theorem dL_law_174 : decode cL_law 174 = .ok (.iload_n 3, 1) := by decide +kernel
theorem dL_law_175 : decode cL_law 175 = .ok (.iconst 4, 1) := by decide +kernel
theorem dL_law_176 : decode cL_law 176 = .ok (.iadd, 1) := by decide +kernel
theorem dL_law_177 : decode cL_law 177 = .ok (.iaload, 1) := by decide +kernel
theorem dL_law_178 : decode cL_law 178 = .ok (.aload_n 0, 1) := by decide +kernel
theorem dL_law_179 : decode cL_law 179 = .ok (.iload_n 3, 1) := by decide +kernel
theorem dL_law_180 : decode cL_law 180 = .ok (.iconst 5, 1) := by decide +kernel
theorem dL_law_181 : decode cL_law 181 = .ok (.iadd, 1) := by decide +kernel
theorem dL_law_182 : decode cL_law 182 = .ok (.iaload, 1) := by decide +kernel
theorem dL_law_183 : decode cL_law 183 = .ok (.invokevirtual 17, 3) := by decide +kernel
theorem dL_law_186 : decode cL_law 186 = .ok (.if_icmp .eq 474, 3) := by decide +kernel
theorem dL_law_189 : decode cL_law 189 = .ok (.iconst 0, 1) := by decide +kernel
theorem dL_law_190 : decode cL_law 190 = .ok (.ireturn, 1) := by decide +kernel
theorem dL_law_191 : decode cL_law 191 = .ok (.aload_n 1, 1) := by decide +kernel
theorem dL_law_192 : decode cL_law 192 = .ok (.aload_n 0, 1) := by decide +kernel
theorem dL_law_193 : decode cL_law 193 = .ok (.iload_n 3, 1) := by decide +kernel
theorem dL_law_194 : decode cL_law 194 = .ok (.iconst 1, 1) := by decide +kernel
theorem dL_law_195 : decode cL_law 195 = .ok (.iadd, 1) := by decide +kernel
theorem dL_law_196 : decode cL_law 196 = .ok (.iaload, 1) := by decide +kernel
theorem dL_law_197 : decode cL_law 197 = .ok (.invokevirtual 18, 3) := by decide +kernel
theorem dL_law_200 : decode cL_law 200 = .ok (.aload_n 2, 1) := by decide +kernel
theorem dL_law_201 : decode cL_law 201 = .ok (.aload_n 0, 1) := by decide +kernel
theorem dL_law_202 : decode cL_law 202 = .ok (.iload_n 3, 1) := by decide +kernel
theorem dL_law_203 : decode cL_law 203 = .ok (.iconst 1, 1) := by decide +kernel
theorem dL_law_204 : decode cL_law 204 = .ok (.iadd, 1) := by decide +kernel
theorem dL_law_205 : decode cL_law 205 = .ok (.iaload, 1) := by decide +kernel
theorem dL_law_206 : decode cL_law 206 = .ok (.invokevirtual 22, 3) := by decide +kernel
theorem dL_law_209 : decode cL_law 209 = .ok (.if_icmp .eq 451, 3) := by decide +kernel
theorem dL_law_212 : decode cL_law 212 = .ok (.iconst 0, 1) := by decide +kernel
theorem dL_law_213 : decode cL_law 213 = .ok (.ireturn, 1) := by decide +kernel
theorem dL_law_214 : decode cL_law 214 = .ok (.aload_n 1, 1) := by decide +kernel
theorem dL_law_215 : decode cL_law 215 = .ok (.aload_n 0, 1) := by decide +kernel
theorem dL_law_216 : decode cL_law 216 = .ok (.iload_n 3, 1) := by decide +kernel
theorem dL_law_217 : decode cL_law 217 = .ok (.iconst 1, 1) := by decide +kernel
theorem dL_law_218 : decode cL_law 218 = .ok (.iadd, 1) := by decide +kernel
theorem dL_law_219 : decode cL_law 219 = .ok (.iaload, 1) := by decide +kernel
theorem dL_law_220 : decode cL_law 220 = .ok (.invokevirtual 23, 3) := by decide +kernel
theorem dL_law_223 : decode cL_law 223 = .ok (.aload_n 2, 1) := by decide +kernel
theorem dL_law_224 : decode cL_law 224 = .ok (.aload_n 0, 1) := by decide +kernel
theorem dL_law_225 : decode cL_law 225 = .ok (.iload_n 3, 1) := by decide +kernel
theorem dL_law_226 : decode cL_law 226 = .ok (.iconst 1, 1) := by decide +kernel
theorem dL_law_227 : decode cL_law 227 = .ok (.iadd, 1) := by decide +kernel
theorem dL_law_228 : decode cL_law 228 = .ok (.iaload, 1) := by decide +kernel
theorem dL_law_229 : decode cL_law 229 = .ok (.invokevirtual 26, 3) := by decide +kernel
theorem dL_law_232 : decode cL_law 232 = .ok (.if_icmp .eq 428, 3) := by decide +kernel
theorem dL_law_235 : decode cL_law 235 = .ok (.iconst 0, 1) := by decide +kernel
theorem dL_law_236 : decode cL_law 236 = .ok (.ireturn, 1) := by decide +kernel
theorem dL_law_237 : decode cL_law 237 = .ok (.aload_n 1, 1) := by decide +kernel
theorem dL_law_238 : decode cL_law 238 = .ok (.aload_n 0, 1) := by decide +kernel
theorem dL_law_239 : decode cL_law 239 = .ok (.iload_n 3, 1) := by decide +kernel
theorem dL_law_240 : decode cL_law 240 = .ok (.iconst 1, 1) := by decide +kernel
theorem dL_law_241 : decode cL_law 241 = .ok (.iadd, 1) := by decide +kernel
theorem dL_law_242 : decode cL_law 242 = .ok (.iaload, 1) := by decide +kernel
theorem dL_law_243 : decode cL_law 243 = .ok (.invokevirtual 27, 3) := by decide +kernel
theorem dL_law_246 : decode cL_law 246 = .ok (.aload_n 2, 1) := by decide +kernel
theorem dL_law_247 : decode cL_law 247 = .ok (.aload_n 0, 1) := by decide +kernel
theorem dL_law_248 : decode cL_law 248 = .ok (.iload_n 3, 1) := by decide +kernel
theorem dL_law_249 : decode cL_law 249 = .ok (.iconst 1, 1) := by decide +kernel
theorem dL_law_250 : decode cL_law 250 = .ok (.iadd, 1) := by decide +kernel
theorem dL_law_251 : decode cL_law 251 = .ok (.iaload, 1) := by decide +kernel
theorem dL_law_252 : decode cL_law 252 = .ok (.invokevirtual 30, 3) := by decide +kernel
theorem dL_law_255 : decode cL_law 255 = .ok (.if_icmp .eq 405, 3) := by decide +kernel
theorem dL_law_258 : decode cL_law 258 = .ok (.iconst 0, 1) := by decide +kernel
theorem dL_law_259 : decode cL_law 259 = .ok (.ireturn, 1) := by decide +kernel
theorem dL_law_260 : decode cL_law 260 = .ok (.aload_n 1, 1) := by decide +kernel
theorem dL_law_261 : decode cL_law 261 = .ok (.aload_n 0, 1) := by decide +kernel
theorem dL_law_262 : decode cL_law 262 = .ok (.iload_n 3, 1) := by decide +kernel
theorem dL_law_263 : decode cL_law 263 = .ok (.iconst 1, 1) := by decide +kernel
theorem dL_law_264 : decode cL_law 264 = .ok (.iadd, 1) := by decide +kernel
theorem dL_law_265 : decode cL_law 265 = .ok (.iaload, 1) := by decide +kernel
theorem dL_law_266 : decode cL_law 266 = .ok (.invokevirtual 31, 3) := by decide +kernel
theorem dL_law_269 : decode cL_law 269 = .ok (.aload_n 2, 1) := by decide +kernel
theorem dL_law_270 : decode cL_law 270 = .ok (.aload_n 0, 1) := by decide +kernel
theorem dL_law_271 : decode cL_law 271 = .ok (.iload_n 3, 1) := by decide +kernel
theorem dL_law_272 : decode cL_law 272 = .ok (.iconst 1, 1) := by decide +kernel
theorem dL_law_273 : decode cL_law 273 = .ok (.iadd, 1) := by decide +kernel
theorem dL_law_274 : decode cL_law 274 = .ok (.iaload, 1) := by decide +kernel
theorem dL_law_275 : decode cL_law 275 = .ok (.invokevirtual 34, 3) := by decide +kernel
theorem dL_law_278 : decode cL_law 278 = .ok (.if_icmp .eq 382, 3) := by decide +kernel
theorem dL_law_281 : decode cL_law 281 = .ok (.iconst 0, 1) := by decide +kernel
theorem dL_law_282 : decode cL_law 282 = .ok (.ireturn, 1) := by decide +kernel
theorem dL_law_283 : decode cL_law 283 = .ok (.aload_n 1, 1) := by decide +kernel
theorem dL_law_284 : decode cL_law 284 = .ok (.aload_n 0, 1) := by decide +kernel
theorem dL_law_285 : decode cL_law 285 = .ok (.iload_n 3, 1) := by decide +kernel
theorem dL_law_286 : decode cL_law 286 = .ok (.iconst 1, 1) := by decide +kernel
theorem dL_law_287 : decode cL_law 287 = .ok (.iadd, 1) := by decide +kernel
theorem dL_law_288 : decode cL_law 288 = .ok (.iaload, 1) := by decide +kernel
theorem dL_law_289 : decode cL_law 289 = .ok (.aload_n 0, 1) := by decide +kernel
theorem dL_law_290 : decode cL_law 290 = .ok (.iload_n 3, 1) := by decide +kernel
theorem dL_law_291 : decode cL_law 291 = .ok (.iconst 2, 1) := by decide +kernel
theorem dL_law_292 : decode cL_law 292 = .ok (.iadd, 1) := by decide +kernel
theorem dL_law_293 : decode cL_law 293 = .ok (.iaload, 1) := by decide +kernel
theorem dL_law_294 : decode cL_law 294 = .ok (.invokevirtual 35, 3) := by decide +kernel
theorem dL_law_297 : decode cL_law 297 = .ok (.aload_n 2, 1) := by decide +kernel
theorem dL_law_298 : decode cL_law 298 = .ok (.aload_n 0, 1) := by decide +kernel
theorem dL_law_299 : decode cL_law 299 = .ok (.iload_n 3, 1) := by decide +kernel
theorem dL_law_300 : decode cL_law 300 = .ok (.iconst 1, 1) := by decide +kernel
theorem dL_law_301 : decode cL_law 301 = .ok (.iadd, 1) := by decide +kernel
theorem dL_law_302 : decode cL_law 302 = .ok (.iaload, 1) := by decide +kernel
theorem dL_law_303 : decode cL_law 303 = .ok (.aload_n 0, 1) := by decide +kernel
theorem dL_law_304 : decode cL_law 304 = .ok (.iload_n 3, 1) := by decide +kernel
theorem dL_law_305 : decode cL_law 305 = .ok (.iconst 2, 1) := by decide +kernel
theorem dL_law_306 : decode cL_law 306 = .ok (.iadd, 1) := by decide +kernel
theorem dL_law_307 : decode cL_law 307 = .ok (.iaload, 1) := by decide +kernel
theorem dL_law_308 : decode cL_law 308 = .ok (.invokevirtual 39, 3) := by decide +kernel
theorem dL_law_311 : decode cL_law 311 = .ok (.if_icmp .eq 349, 3) := by decide +kernel
theorem dL_law_314 : decode cL_law 314 = .ok (.iconst 0, 1) := by decide +kernel
theorem dL_law_315 : decode cL_law 315 = .ok (.ireturn, 1) := by decide +kernel
theorem dL_law_316 : decode cL_law 316 = .ok (.aload_n 1, 1) := by decide +kernel
theorem dL_law_317 : decode cL_law 317 = .ok (.aload_n 0, 1) := by decide +kernel
theorem dL_law_318 : decode cL_law 318 = .ok (.iload_n 3, 1) := by decide +kernel
theorem dL_law_319 : decode cL_law 319 = .ok (.iconst 1, 1) := by decide +kernel
theorem dL_law_320 : decode cL_law 320 = .ok (.iadd, 1) := by decide +kernel
theorem dL_law_321 : decode cL_law 321 = .ok (.iaload, 1) := by decide +kernel
theorem dL_law_322 : decode cL_law 322 = .ok (.aload_n 0, 1) := by decide +kernel
theorem dL_law_323 : decode cL_law 323 = .ok (.iload_n 3, 1) := by decide +kernel
theorem dL_law_324 : decode cL_law 324 = .ok (.iconst 2, 1) := by decide +kernel
theorem dL_law_325 : decode cL_law 325 = .ok (.iadd, 1) := by decide +kernel
theorem dL_law_326 : decode cL_law 326 = .ok (.iaload, 1) := by decide +kernel
theorem dL_law_327 : decode cL_law 327 = .ok (.invokevirtual 40, 3) := by decide +kernel
theorem dL_law_330 : decode cL_law 330 = .ok (.aload_n 2, 1) := by decide +kernel
theorem dL_law_331 : decode cL_law 331 = .ok (.aload_n 0, 1) := by decide +kernel
theorem dL_law_332 : decode cL_law 332 = .ok (.iload_n 3, 1) := by decide +kernel
theorem dL_law_333 : decode cL_law 333 = .ok (.iconst 1, 1) := by decide +kernel
theorem dL_law_334 : decode cL_law 334 = .ok (.iadd, 1) := by decide +kernel
theorem dL_law_335 : decode cL_law 335 = .ok (.iaload, 1) := by decide +kernel
theorem dL_law_336 : decode cL_law 336 = .ok (.aload_n 0, 1) := by decide +kernel
theorem dL_law_337 : decode cL_law 337 = .ok (.iload_n 3, 1) := by decide +kernel
theorem dL_law_338 : decode cL_law 338 = .ok (.iconst 2, 1) := by decide +kernel
theorem dL_law_339 : decode cL_law 339 = .ok (.iadd, 1) := by decide +kernel
theorem dL_law_340 : decode cL_law 340 = .ok (.iaload, 1) := by decide +kernel
theorem dL_law_341 : decode cL_law 341 = .ok (.invokevirtual 43, 3) := by decide +kernel
theorem dL_law_344 : decode cL_law 344 = .ok (.if_icmp .eq 316, 3) := by decide +kernel
theorem dL_law_347 : decode cL_law 347 = .ok (.iconst 0, 1) := by decide +kernel
theorem dL_law_348 : decode cL_law 348 = .ok (.ireturn, 1) := by decide +kernel
theorem dL_law_349 : decode cL_law 349 = .ok (.aload_n 1, 1) := by decide +kernel
theorem dL_law_350 : decode cL_law 350 = .ok (.aload_n 0, 1) := by decide +kernel
theorem dL_law_351 : decode cL_law 351 = .ok (.iload_n 3, 1) := by decide +kernel
theorem dL_law_352 : decode cL_law 352 = .ok (.iconst 1, 1) := by decide +kernel
theorem dL_law_353 : decode cL_law 353 = .ok (.iadd, 1) := by decide +kernel
theorem dL_law_354 : decode cL_law 354 = .ok (.iaload, 1) := by decide +kernel
theorem dL_law_355 : decode cL_law 355 = .ok (.aload_n 0, 1) := by decide +kernel
theorem dL_law_356 : decode cL_law 356 = .ok (.iload_n 3, 1) := by decide +kernel
theorem dL_law_357 : decode cL_law 357 = .ok (.iconst 2, 1) := by decide +kernel
theorem dL_law_358 : decode cL_law 358 = .ok (.iadd, 1) := by decide +kernel
theorem dL_law_359 : decode cL_law 359 = .ok (.iaload, 1) := by decide +kernel
theorem dL_law_360 : decode cL_law 360 = .ok (.invokevirtual 44, 3) := by decide +kernel
theorem dL_law_363 : decode cL_law 363 = .ok (.aload_n 2, 1) := by decide +kernel
theorem dL_law_364 : decode cL_law 364 = .ok (.aload_n 0, 1) := by decide +kernel
theorem dL_law_365 : decode cL_law 365 = .ok (.iload_n 3, 1) := by decide +kernel
theorem dL_law_366 : decode cL_law 366 = .ok (.iconst 1, 1) := by decide +kernel
theorem dL_law_367 : decode cL_law 367 = .ok (.iadd, 1) := by decide +kernel
theorem dL_law_368 : decode cL_law 368 = .ok (.iaload, 1) := by decide +kernel
theorem dL_law_369 : decode cL_law 369 = .ok (.aload_n 0, 1) := by decide +kernel
theorem dL_law_370 : decode cL_law 370 = .ok (.iload_n 3, 1) := by decide +kernel
theorem dL_law_371 : decode cL_law 371 = .ok (.iconst 2, 1) := by decide +kernel
theorem dL_law_372 : decode cL_law 372 = .ok (.iadd, 1) := by decide +kernel
theorem dL_law_373 : decode cL_law 373 = .ok (.iaload, 1) := by decide +kernel
theorem dL_law_374 : decode cL_law 374 = .ok (.invokevirtual 47, 3) := by decide +kernel
theorem dL_law_377 : decode cL_law 377 = .ok (.if_icmp .eq 283, 3) := by decide +kernel
theorem dL_law_380 : decode cL_law 380 = .ok (.iconst 0, 1) := by decide +kernel
theorem dL_law_381 : decode cL_law 381 = .ok (.ireturn, 1) := by decide +kernel
theorem dL_law_382 : decode cL_law 382 = .ok (.aload_n 1, 1) := by decide +kernel
theorem dL_law_383 : decode cL_law 383 = .ok (.aload_n 0, 1) := by decide +kernel
theorem dL_law_384 : decode cL_law 384 = .ok (.iload_n 3, 1) := by decide +kernel
theorem dL_law_385 : decode cL_law 385 = .ok (.iconst 1, 1) := by decide +kernel
theorem dL_law_386 : decode cL_law 386 = .ok (.iadd, 1) := by decide +kernel
theorem dL_law_387 : decode cL_law 387 = .ok (.iaload, 1) := by decide +kernel
theorem dL_law_388 : decode cL_law 388 = .ok (.aload_n 0, 1) := by decide +kernel
theorem dL_law_389 : decode cL_law 389 = .ok (.iload_n 3, 1) := by decide +kernel
theorem dL_law_390 : decode cL_law 390 = .ok (.iconst 2, 1) := by decide +kernel
theorem dL_law_391 : decode cL_law 391 = .ok (.iadd, 1) := by decide +kernel
theorem dL_law_392 : decode cL_law 392 = .ok (.iaload, 1) := by decide +kernel
theorem dL_law_393 : decode cL_law 393 = .ok (.invokevirtual 48, 3) := by decide +kernel
theorem dL_law_396 : decode cL_law 396 = .ok (.aload_n 2, 1) := by decide +kernel
theorem dL_law_397 : decode cL_law 397 = .ok (.aload_n 0, 1) := by decide +kernel
theorem dL_law_398 : decode cL_law 398 = .ok (.iload_n 3, 1) := by decide +kernel
theorem dL_law_399 : decode cL_law 399 = .ok (.iconst 1, 1) := by decide +kernel
theorem dL_law_400 : decode cL_law 400 = .ok (.iadd, 1) := by decide +kernel
theorem dL_law_401 : decode cL_law 401 = .ok (.iaload, 1) := by decide +kernel
theorem dL_law_402 : decode cL_law 402 = .ok (.aload_n 0, 1) := by decide +kernel
theorem dL_law_403 : decode cL_law 403 = .ok (.iload_n 3, 1) := by decide +kernel
theorem dL_law_404 : decode cL_law 404 = .ok (.iconst 2, 1) := by decide +kernel
theorem dL_law_405 : decode cL_law 405 = .ok (.iadd, 1) := by decide +kernel
theorem dL_law_406 : decode cL_law 406 = .ok (.iaload, 1) := by decide +kernel
theorem dL_law_407 : decode cL_law 407 = .ok (.invokevirtual 52, 3) := by decide +kernel
theorem dL_law_410 : decode cL_law 410 = .ok (.lcmp, 1) := by decide +kernel
theorem dL_law_411 : decode cL_law 411 = .ok (.ifCond .eq 249, 3) := by decide +kernel
theorem dL_law_414 : decode cL_law 414 = .ok (.iconst 0, 1) := by decide +kernel
theorem dL_law_415 : decode cL_law 415 = .ok (.ireturn, 1) := by decide +kernel
theorem dL_law_416 : decode cL_law 416 = .ok (.aload_n 1, 1) := by decide +kernel
theorem dL_law_417 : decode cL_law 417 = .ok (.aload_n 0, 1) := by decide +kernel
theorem dL_law_418 : decode cL_law 418 = .ok (.iload_n 3, 1) := by decide +kernel
theorem dL_law_419 : decode cL_law 419 = .ok (.iconst 1, 1) := by decide +kernel
theorem dL_law_420 : decode cL_law 420 = .ok (.iadd, 1) := by decide +kernel
theorem dL_law_421 : decode cL_law 421 = .ok (.iaload, 1) := by decide +kernel
theorem dL_law_422 : decode cL_law 422 = .ok (.aload_n 0, 1) := by decide +kernel
theorem dL_law_423 : decode cL_law 423 = .ok (.iload_n 3, 1) := by decide +kernel
theorem dL_law_424 : decode cL_law 424 = .ok (.iconst 2, 1) := by decide +kernel
theorem dL_law_425 : decode cL_law 425 = .ok (.iadd, 1) := by decide +kernel
theorem dL_law_426 : decode cL_law 426 = .ok (.iaload, 1) := by decide +kernel
theorem dL_law_427 : decode cL_law 427 = .ok (.invokevirtual 53, 3) := by decide +kernel
theorem dL_law_430 : decode cL_law 430 = .ok (.aload_n 2, 1) := by decide +kernel
theorem dL_law_431 : decode cL_law 431 = .ok (.aload_n 0, 1) := by decide +kernel
theorem dL_law_432 : decode cL_law 432 = .ok (.iload_n 3, 1) := by decide +kernel
theorem dL_law_433 : decode cL_law 433 = .ok (.iconst 1, 1) := by decide +kernel
theorem dL_law_434 : decode cL_law 434 = .ok (.iadd, 1) := by decide +kernel
theorem dL_law_435 : decode cL_law 435 = .ok (.iaload, 1) := by decide +kernel
theorem dL_law_436 : decode cL_law 436 = .ok (.aload_n 0, 1) := by decide +kernel
theorem dL_law_437 : decode cL_law 437 = .ok (.iload_n 3, 1) := by decide +kernel
theorem dL_law_438 : decode cL_law 438 = .ok (.iconst 2, 1) := by decide +kernel
theorem dL_law_439 : decode cL_law 439 = .ok (.iadd, 1) := by decide +kernel
theorem dL_law_440 : decode cL_law 440 = .ok (.iaload, 1) := by decide +kernel
theorem dL_law_441 : decode cL_law 441 = .ok (.invokevirtual 56, 3) := by decide +kernel
theorem dL_law_444 : decode cL_law 444 = .ok (.if_icmp .eq 216, 3) := by decide +kernel
theorem dL_law_447 : decode cL_law 447 = .ok (.iconst 0, 1) := by decide +kernel
theorem dL_law_448 : decode cL_law 448 = .ok (.ireturn, 1) := by decide +kernel
theorem dL_law_449 : decode cL_law 449 = .ok (.aload_n 1, 1) := by decide +kernel
theorem dL_law_450 : decode cL_law 450 = .ok (.aload_n 0, 1) := by decide +kernel
theorem dL_law_451 : decode cL_law 451 = .ok (.iload_n 3, 1) := by decide +kernel
theorem dL_law_452 : decode cL_law 452 = .ok (.iconst 1, 1) := by decide +kernel
theorem dL_law_453 : decode cL_law 453 = .ok (.iadd, 1) := by decide +kernel
theorem dL_law_454 : decode cL_law 454 = .ok (.iaload, 1) := by decide +kernel
theorem dL_law_455 : decode cL_law 455 = .ok (.invokevirtual 57, 3) := by decide +kernel
theorem dL_law_458 : decode cL_law 458 = .ok (.aload_n 2, 1) := by decide +kernel
theorem dL_law_459 : decode cL_law 459 = .ok (.aload_n 0, 1) := by decide +kernel
theorem dL_law_460 : decode cL_law 460 = .ok (.iload_n 3, 1) := by decide +kernel
theorem dL_law_461 : decode cL_law 461 = .ok (.iconst 1, 1) := by decide +kernel
theorem dL_law_462 : decode cL_law 462 = .ok (.iadd, 1) := by decide +kernel
theorem dL_law_463 : decode cL_law 463 = .ok (.iaload, 1) := by decide +kernel
theorem dL_law_464 : decode cL_law 464 = .ok (.invokevirtual 60, 3) := by decide +kernel
theorem dL_law_467 : decode cL_law 467 = .ok (.if_icmp .eq 193, 3) := by decide +kernel
theorem dL_law_470 : decode cL_law 470 = .ok (.iconst 0, 1) := by decide +kernel
theorem dL_law_471 : decode cL_law 471 = .ok (.ireturn, 1) := by decide +kernel
theorem dL_law_472 : decode cL_law 472 = .ok (.aload_n 1, 1) := by decide +kernel
theorem dL_law_473 : decode cL_law 473 = .ok (.aload_n 0, 1) := by decide +kernel
theorem dL_law_474 : decode cL_law 474 = .ok (.iload_n 3, 1) := by decide +kernel
theorem dL_law_475 : decode cL_law 475 = .ok (.iconst 1, 1) := by decide +kernel
theorem dL_law_476 : decode cL_law 476 = .ok (.iadd, 1) := by decide +kernel
theorem dL_law_477 : decode cL_law 477 = .ok (.iaload, 1) := by decide +kernel
theorem dL_law_478 : decode cL_law 478 = .ok (.aload_n 0, 1) := by decide +kernel
theorem dL_law_479 : decode cL_law 479 = .ok (.iload_n 3, 1) := by decide +kernel
theorem dL_law_480 : decode cL_law 480 = .ok (.iconst 2, 1) := by decide +kernel
theorem dL_law_481 : decode cL_law 481 = .ok (.iadd, 1) := by decide +kernel
theorem dL_law_482 : decode cL_law 482 = .ok (.iaload, 1) := by decide +kernel
theorem dL_law_483 : decode cL_law 483 = .ok (.aload_n 0, 1) := by decide +kernel
theorem dL_law_484 : decode cL_law 484 = .ok (.iload_n 3, 1) := by decide +kernel
theorem dL_law_485 : decode cL_law 485 = .ok (.iconst 3, 1) := by decide +kernel
theorem dL_law_486 : decode cL_law 486 = .ok (.iadd, 1) := by decide +kernel
theorem dL_law_487 : decode cL_law 487 = .ok (.iaload, 1) := by decide +kernel
theorem dL_law_488 : decode cL_law 488 = .ok (.invokevirtual 61, 3) := by decide +kernel
theorem dL_law_491 : decode cL_law 491 = .ok (.aload_n 2, 1) := by decide +kernel
theorem dL_law_492 : decode cL_law 492 = .ok (.aload_n 0, 1) := by decide +kernel
theorem dL_law_493 : decode cL_law 493 = .ok (.iload_n 3, 1) := by decide +kernel
theorem dL_law_494 : decode cL_law 494 = .ok (.iconst 1, 1) := by decide +kernel
theorem dL_law_495 : decode cL_law 495 = .ok (.iadd, 1) := by decide +kernel
theorem dL_law_496 : decode cL_law 496 = .ok (.iaload, 1) := by decide +kernel
theorem dL_law_497 : decode cL_law 497 = .ok (.aload_n 0, 1) := by decide +kernel
theorem dL_law_498 : decode cL_law 498 = .ok (.iload_n 3, 1) := by decide +kernel
theorem dL_law_499 : decode cL_law 499 = .ok (.iconst 2, 1) := by decide +kernel
theorem dL_law_500 : decode cL_law 500 = .ok (.iadd, 1) := by decide +kernel
theorem dL_law_501 : decode cL_law 501 = .ok (.iaload, 1) := by decide +kernel
theorem dL_law_502 : decode cL_law 502 = .ok (.aload_n 0, 1) := by decide +kernel
theorem dL_law_503 : decode cL_law 503 = .ok (.iload_n 3, 1) := by decide +kernel
theorem dL_law_504 : decode cL_law 504 = .ok (.iconst 3, 1) := by decide +kernel
theorem dL_law_505 : decode cL_law 505 = .ok (.iadd, 1) := by decide +kernel
theorem dL_law_506 : decode cL_law 506 = .ok (.iaload, 1) := by decide +kernel
theorem dL_law_507 : decode cL_law 507 = .ok (.invokevirtual 65, 3) := by decide +kernel
theorem dL_law_510 : decode cL_law 510 = .ok (.if_icmp .eq 150, 3) := by decide +kernel
theorem dL_law_513 : decode cL_law 513 = .ok (.iconst 0, 1) := by decide +kernel
theorem dL_law_514 : decode cL_law 514 = .ok (.ireturn, 1) := by decide +kernel
theorem dL_law_515 : decode cL_law 515 = .ok (.aload_n 1, 1) := by decide +kernel
theorem dL_law_516 : decode cL_law 516 = .ok (.aload_n 0, 1) := by decide +kernel
theorem dL_law_517 : decode cL_law 517 = .ok (.iload_n 3, 1) := by decide +kernel
theorem dL_law_518 : decode cL_law 518 = .ok (.iconst 1, 1) := by decide +kernel
theorem dL_law_519 : decode cL_law 519 = .ok (.iadd, 1) := by decide +kernel
theorem dL_law_520 : decode cL_law 520 = .ok (.iaload, 1) := by decide +kernel
theorem dL_law_521 : decode cL_law 521 = .ok (.invokevirtual 66, 3) := by decide +kernel
theorem dL_law_524 : decode cL_law 524 = .ok (.aload_n 2, 1) := by decide +kernel
theorem dL_law_525 : decode cL_law 525 = .ok (.aload_n 0, 1) := by decide +kernel
theorem dL_law_526 : decode cL_law 526 = .ok (.iload_n 3, 1) := by decide +kernel
theorem dL_law_527 : decode cL_law 527 = .ok (.iconst 1, 1) := by decide +kernel
theorem dL_law_528 : decode cL_law 528 = .ok (.iadd, 1) := by decide +kernel
theorem dL_law_529 : decode cL_law 529 = .ok (.iaload, 1) := by decide +kernel
theorem dL_law_530 : decode cL_law 530 = .ok (.invokevirtual 69, 3) := by decide +kernel
theorem dL_law_533 : decode cL_law 533 = .ok (.if_icmp .eq 127, 3) := by decide +kernel
theorem dL_law_536 : decode cL_law 536 = .ok (.iconst 0, 1) := by decide +kernel
theorem dL_law_537 : decode cL_law 537 = .ok (.ireturn, 1) := by decide +kernel
theorem dL_law_538 : decode cL_law 538 = .ok (.aload_n 1, 1) := by decide +kernel
theorem dL_law_539 : decode cL_law 539 = .ok (.invokevirtual 70, 3) := by decide +kernel
theorem dL_law_542 : decode cL_law 542 = .ok (.aload_n 2, 1) := by decide +kernel
theorem dL_law_543 : decode cL_law 543 = .ok (.invokevirtual 74, 3) := by decide +kernel
theorem dL_law_546 : decode cL_law 546 = .ok (.lcmp, 1) := by decide +kernel
theorem dL_law_547 : decode cL_law 547 = .ok (.ifCond .eq 113, 3) := by decide +kernel
theorem dL_law_550 : decode cL_law 550 = .ok (.iconst 0, 1) := by decide +kernel
theorem dL_law_551 : decode cL_law 551 = .ok (.ireturn, 1) := by decide +kernel
theorem dL_law_552 : decode cL_law 552 = .ok (.aload_n 1, 1) := by decide +kernel
theorem dL_law_553 : decode cL_law 553 = .ok (.aload_n 0, 1) := by decide +kernel
theorem dL_law_554 : decode cL_law 554 = .ok (.iload_n 3, 1) := by decide +kernel
theorem dL_law_555 : decode cL_law 555 = .ok (.iconst 1, 1) := by decide +kernel
theorem dL_law_556 : decode cL_law 556 = .ok (.iadd, 1) := by decide +kernel
theorem dL_law_557 : decode cL_law 557 = .ok (.iaload, 1) := by decide +kernel
theorem dL_law_558 : decode cL_law 558 = .ok (.invokevirtual 75, 3) := by decide +kernel
theorem dL_law_561 : decode cL_law 561 = .ok (.aload_n 2, 1) := by decide +kernel
theorem dL_law_562 : decode cL_law 562 = .ok (.aload_n 0, 1) := by decide +kernel
theorem dL_law_563 : decode cL_law 563 = .ok (.iload_n 3, 1) := by decide +kernel
theorem dL_law_564 : decode cL_law 564 = .ok (.iconst 1, 1) := by decide +kernel
theorem dL_law_565 : decode cL_law 565 = .ok (.iadd, 1) := by decide +kernel
theorem dL_law_566 : decode cL_law 566 = .ok (.iaload, 1) := by decide +kernel
theorem dL_law_567 : decode cL_law 567 = .ok (.invokevirtual 78, 3) := by decide +kernel
theorem dL_law_570 : decode cL_law 570 = .ok (.if_icmp .eq 90, 3) := by decide +kernel
theorem dL_law_573 : decode cL_law 573 = .ok (.iconst 0, 1) := by decide +kernel
theorem dL_law_574 : decode cL_law 574 = .ok (.ireturn, 1) := by decide +kernel
theorem dL_law_575 : decode cL_law 575 = .ok (.aload_n 1, 1) := by decide +kernel
theorem dL_law_576 : decode cL_law 576 = .ok (.invokevirtual 79, 3) := by decide +kernel
theorem dL_law_579 : decode cL_law 579 = .ok (.aload_n 2, 1) := by decide +kernel
theorem dL_law_580 : decode cL_law 580 = .ok (.invokevirtual 83, 3) := by decide +kernel
theorem dL_law_583 : decode cL_law 583 = .ok (.if_icmp .eq 77, 3) := by decide +kernel
theorem dL_law_586 : decode cL_law 586 = .ok (.iconst 0, 1) := by decide +kernel
theorem dL_law_587 : decode cL_law 587 = .ok (.ireturn, 1) := by decide +kernel
theorem dL_law_588 : decode cL_law 588 = .ok (.aload_n 1, 1) := by decide +kernel
theorem dL_law_589 : decode cL_law 589 = .ok (.aload_n 0, 1) := by decide +kernel
theorem dL_law_590 : decode cL_law 590 = .ok (.iload_n 3, 1) := by decide +kernel
theorem dL_law_591 : decode cL_law 591 = .ok (.iconst 1, 1) := by decide +kernel
theorem dL_law_592 : decode cL_law 592 = .ok (.iadd, 1) := by decide +kernel
theorem dL_law_593 : decode cL_law 593 = .ok (.iaload, 1) := by decide +kernel
theorem dL_law_594 : decode cL_law 594 = .ok (.invokevirtual 84, 3) := by decide +kernel
theorem dL_law_597 : decode cL_law 597 = .ok (.aload_n 2, 1) := by decide +kernel
theorem dL_law_598 : decode cL_law 598 = .ok (.aload_n 0, 1) := by decide +kernel
theorem dL_law_599 : decode cL_law 599 = .ok (.iload_n 3, 1) := by decide +kernel
theorem dL_law_600 : decode cL_law 600 = .ok (.iconst 1, 1) := by decide +kernel
theorem dL_law_601 : decode cL_law 601 = .ok (.iadd, 1) := by decide +kernel
theorem dL_law_602 : decode cL_law 602 = .ok (.iaload, 1) := by decide +kernel
theorem dL_law_603 : decode cL_law 603 = .ok (.invokevirtual 87, 3) := by decide +kernel
theorem dL_law_606 : decode cL_law 606 = .ok (.if_icmp .eq 54, 3) := by decide +kernel
theorem dL_law_609 : decode cL_law 609 = .ok (.iconst 0, 1) := by decide +kernel
theorem dL_law_610 : decode cL_law 610 = .ok (.ireturn, 1) := by decide +kernel
theorem dL_law_611 : decode cL_law 611 = .ok (.aload_n 1, 1) := by decide +kernel
theorem dL_law_612 : decode cL_law 612 = .ok (.invokevirtual 88, 3) := by decide +kernel
theorem dL_law_615 : decode cL_law 615 = .ok (.aload_n 2, 1) := by decide +kernel
theorem dL_law_616 : decode cL_law 616 = .ok (.invokevirtual 91, 3) := by decide +kernel
theorem dL_law_619 : decode cL_law 619 = .ok (.if_icmp .eq 41, 3) := by decide +kernel
theorem dL_law_622 : decode cL_law 622 = .ok (.iconst 0, 1) := by decide +kernel
theorem dL_law_623 : decode cL_law 623 = .ok (.ireturn, 1) := by decide +kernel
theorem dL_law_624 : decode cL_law 624 = .ok (.aload_n 1, 1) := by decide +kernel
theorem dL_law_625 : decode cL_law 625 = .ok (.aload_n 0, 1) := by decide +kernel
theorem dL_law_626 : decode cL_law 626 = .ok (.iload_n 3, 1) := by decide +kernel
theorem dL_law_627 : decode cL_law 627 = .ok (.iconst 1, 1) := by decide +kernel
theorem dL_law_628 : decode cL_law 628 = .ok (.iadd, 1) := by decide +kernel
theorem dL_law_629 : decode cL_law 629 = .ok (.iaload, 1) := by decide +kernel
theorem dL_law_630 : decode cL_law 630 = .ok (.invokevirtual 92, 3) := by decide +kernel
theorem dL_law_633 : decode cL_law 633 = .ok (.aload_n 2, 1) := by decide +kernel
theorem dL_law_634 : decode cL_law 634 = .ok (.aload_n 0, 1) := by decide +kernel
theorem dL_law_635 : decode cL_law 635 = .ok (.iload_n 3, 1) := by decide +kernel
theorem dL_law_636 : decode cL_law 636 = .ok (.iconst 1, 1) := by decide +kernel
theorem dL_law_637 : decode cL_law 637 = .ok (.iadd, 1) := by decide +kernel
theorem dL_law_638 : decode cL_law 638 = .ok (.iaload, 1) := by decide +kernel
theorem dL_law_639 : decode cL_law 639 = .ok (.invokevirtual 95, 3) := by decide +kernel
theorem dL_law_642 : decode cL_law 642 = .ok (.if_icmp .eq 18, 3) := by decide +kernel
theorem dL_law_645 : decode cL_law 645 = .ok (.iconst 0, 1) := by decide +kernel
theorem dL_law_646 : decode cL_law 646 = .ok (.ireturn, 1) := by decide +kernel
theorem dL_law_647 : decode cL_law 647 = .ok (.aload_n 1, 1) := by decide +kernel
theorem dL_law_648 : decode cL_law 648 = .ok (.invokevirtual 96, 3) := by decide +kernel
theorem dL_law_651 : decode cL_law 651 = .ok (.aload_n 2, 1) := by decide +kernel
theorem dL_law_652 : decode cL_law 652 = .ok (.invokevirtual 99, 3) := by decide +kernel
theorem dL_law_655 : decode cL_law 655 = .ok (.if_icmp .eq 5, 3) := by decide +kernel
theorem dL_law_658 : decode cL_law 658 = .ok (.iconst 0, 1) := by decide +kernel
theorem dL_law_659 : decode cL_law 659 = .ok (.ireturn, 1) := by decide +kernel
theorem dL_law_660 : decode cL_law 660 = .ok (.iinc 3 6, 3) := by decide +kernel
theorem dL_law_663 : decode cL_law 663 = .ok (.goto (-645), 3) := by decide +kernel
theorem dL_law_666 : decode cL_law 666 = .ok (.iconst 1, 1) := by decide +kernel
theorem dL_law_667 : decode cL_law 667 = .ok (.ireturn, 1) := by decide +kernel
end
section
/-! the tables' words by their places: of all that keep (lw_ws), and those between nest mates (nestW) -/
def lw_ws : List Cond := lw_tbl.filter goodWord
theorem ws_mem {w : Cond} (i : Nat) (h : lw_tbl[i]? = some w) (hg : goodWord w = true) : w ∈ lw_ws := List.mem_filter.mpr ⟨List.mem_of_getElem? h, hg⟩
def nestW : List Cond := [Cond.methodLinkNest RX3 27 yX0_init "RenewalClocks", Cond.methodLinkNest RX0 17 yX1_init "RenewalClocks", Cond.fieldLinkNest RX0 67 RX1 "many" "I" "RenewalClocks", Cond.fieldLinkNest RX3 75 RX1 "many" "I" "RenewalClocks", Cond.fieldLinkNest RX7 102 RX1 "many" "I" "RenewalClocks", Cond.fieldLinkNest RX0 74 RX1 "sum" "I" "RenewalClocks", Cond.fieldLinkNest RX0 78 RX1 "longest" "I" "RenewalClocks", Cond.fieldLinkNest RX3 68 RX0 "law" "I" "RenewalClocks", Cond.fieldLinkNest RX3 65 RX0 "gap" "I" "RenewalClocks", Cond.fieldLinkNest RX7 147 RX0 "gap" "I" "RenewalClocks", Cond.fieldLinkNest RX3 113 RX0 "rest" "I" "RenewalClocks", Cond.fieldLinkNest RX7 144 RX0 "rest" "I" "RenewalClocks", Cond.fieldLinkNest RX3 107 RX0 "passengers" "I" "RenewalClocks", Cond.fieldLinkNest RX3 110 RX0 "waited" "I" "RenewalClocks", Cond.fieldLinkNest RX3 62 RX0 "wound" "I" "RenewalClocks", Cond.fieldLinkNest RX7 99 RX0 "told" "LRenewalClocks$Gaps;" "RenewalClocks", Cond.fieldLinkNest RX3 71 RX0 "round" "LRenewalClocks$Gaps;" "RenewalClocks", Cond.fieldLinkNest RX7 85 RX0 "round" "LRenewalClocks$Gaps;" "RenewalClocks", Cond.methodLinkNest RX3 28 yX2_init "RenewalClocks", Cond.fieldLinkNest RX7 112 RX2 "law" "I" "RenewalClocks", Cond.fieldLinkNest RX3 126 RX2 "law" "I" "RenewalClocks", Cond.fieldLinkNest RX7 117 RX2 "members" "I" "RenewalClocks", Cond.fieldLinkNest RX3 134 RX2 "members" "I" "RenewalClocks", Cond.fieldLinkNest RX7 123 RX2 "told" "I" "RenewalClocks", Cond.fieldLinkNest RX7 125 RX2 "met" "I" "RenewalClocks", Cond.fieldLinkNest RX7 155 RX3 "clockCount" "I" "RenewalClocks", Cond.fieldLinkNest RX7 158 RX3 "groupCount" "I" "RenewalClocks", Cond.fieldLinkNest RX7 161 RX3 "now" "I" "RenewalClocks", Cond.fieldLinkNest RX7 164 RX3 "drawn" "I" "RenewalClocks", Cond.fieldLinkNest RX7 173 RX4 "kept" "I" "RenewalClocks", Cond.methodLinkNest RX7 28 yX6_init "RenewalClocks", Cond.fieldLinkNest RX5 35 RX6 "length" "I" "RenewalClocks", Cond.fieldLinkNest RX7 176 RX6 "length" "I" "RenewalClocks", Cond.fieldLinkNest RX7 196 RX5 "start" "I" "RenewalClocks", Cond.fieldLinkNest RX7 202 RX5 "many" "I" "RenewalClocks", Cond.fieldLinkNest RX7 193 RX5 "reason" "I" "RenewalClocks", Cond.fieldLinkNest RX7 199 RX5 "cause" "I" "RenewalClocks", Cond.methodLinkNest RX3 45 yX7_isClock "RenewalClocks", Cond.methodLinkNest RX3 116 yX7_isLaw "RenewalClocks"]
theorem nestW_tbl : nestW = [72, 78, 83, 84, 85, 87, 91, 105, 109, 110, 112, 113, 115, 117, 119, 121, 123, 124, 147, 152, 153, 155, 156, 158, 160, 172, 175, 177, 179, 204, 212, 218, 219, 235, 238, 240, 242, 305, 415].filterMap (fun i => lw_tbl[i]?) := by decide +kernel
theorem uin_X0 : ∀ w ∈ u_ws RX0 TX0 10, w ∈ lw_ws := by
  have h1 : u_ws RX0 TX0 10 = [125, 127, 129, 131, 133, 135, 137, 139, 141, 143].filterMap (fun i => lw_tbl[i]?) := by decide +kernel
  have h2 : (u_ws RX0 TX0 10).all goodWord = true := by decide +kernel
  intro w hw
  refine List.mem_filter.mpr ⟨?_, List.all_eq_true.mp h2 w hw⟩
  rw [h1] at hw
  obtain ⟨i, -, hi⟩ := List.mem_filterMap.mp hw
  exact List.mem_of_getElem? hi
theorem uin_X1 : ∀ w ∈ u_ws RX1 TX1 5, w ∈ lw_ws := by
  have h1 : u_ws RX1 TX1 5 = [92, 94, 96, 98, 100].filterMap (fun i => lw_tbl[i]?) := by decide +kernel
  have h2 : (u_ws RX1 TX1 5).all goodWord = true := by decide +kernel
  intro w hw
  refine List.mem_filter.mpr ⟨?_, List.all_eq_true.mp h2 w hw⟩
  rw [h1] at hw
  obtain ⟨i, -, hi⟩ := List.mem_filterMap.mp hw
  exact List.mem_of_getElem? hi
theorem uin_X2 : ∀ w ∈ u_ws RX2 TX2 4, w ∈ lw_ws := by
  have h1 : u_ws RX2 TX2 4 = [161, 163, 165, 167].filterMap (fun i => lw_tbl[i]?) := by decide +kernel
  have h2 : (u_ws RX2 TX2 4).all goodWord = true := by decide +kernel
  intro w hw
  refine List.mem_filter.mpr ⟨?_, List.all_eq_true.mp h2 w hw⟩
  rw [h1] at hw
  obtain ⟨i, -, hi⟩ := List.mem_filterMap.mp hw
  exact List.mem_of_getElem? hi
theorem uin_X3 : ∀ w ∈ u_ws RX3 TX3 6, w ∈ lw_ws := by
  have h1 : u_ws RX3 TX3 6 = [180, 182, 184, 186, 188, 190].filterMap (fun i => lw_tbl[i]?) := by decide +kernel
  have h2 : (u_ws RX3 TX3 6).all goodWord = true := by decide +kernel
  intro w hw
  refine List.mem_filter.mpr ⟨?_, List.all_eq_true.mp h2 w hw⟩
  rw [h1] at hw
  obtain ⟨i, -, hi⟩ := List.mem_filterMap.mp hw
  exact List.mem_of_getElem? hi
theorem uin_X4 : ∀ w ∈ u_ws RX4 TX4 2, w ∈ lw_ws := by
  have h1 : u_ws RX4 TX4 2 = [205, 207].filterMap (fun i => lw_tbl[i]?) := by decide +kernel
  have h2 : (u_ws RX4 TX4 2).all goodWord = true := by decide +kernel
  intro w hw
  refine List.mem_filter.mpr ⟨?_, List.all_eq_true.mp h2 w hw⟩
  rw [h1] at hw
  obtain ⟨i, -, hi⟩ := List.mem_filterMap.mp hw
  exact List.mem_of_getElem? hi
theorem uin_X5 : ∀ w ∈ u_ws RX5 TX5 7, w ∈ lw_ws := by
  have h1 : u_ws RX5 TX5 7 = [243, 245, 247, 249, 251, 253, 255].filterMap (fun i => lw_tbl[i]?) := by decide +kernel
  have h2 : (u_ws RX5 TX5 7).all goodWord = true := by decide +kernel
  intro w hw
  refine List.mem_filter.mpr ⟨?_, List.all_eq_true.mp h2 w hw⟩
  rw [h1] at hw
  obtain ⟨i, -, hi⟩ := List.mem_filterMap.mp hw
  exact List.mem_of_getElem? hi
theorem uin_X6 : ∀ w ∈ u_ws RX6 TX6 2, w ∈ lw_ws := by
  have h1 : u_ws RX6 TX6 2 = [220, 222].filterMap (fun i => lw_tbl[i]?) := by decide +kernel
  have h2 : (u_ws RX6 TX6 2).all goodWord = true := by decide +kernel
  intro w hw
  refine List.mem_filter.mpr ⟨?_, List.all_eq_true.mp h2 w hw⟩
  rw [h1] at hw
  obtain ⟨i, -, hi⟩ := List.mem_filterMap.mp hw
  exact List.mem_of_getElem? hi
theorem uin_X7 : ∀ w ∈ u_ws RX7 TX7 5, w ∈ lw_ws := by
  have h1 : u_ws RX7 TX7 5 = [263, 265, 267, 269, 271].filterMap (fun i => lw_tbl[i]?) := by decide +kernel
  have h2 : (u_ws RX7 TX7 5).all goodWord = true := by decide +kernel
  intro w hw
  refine List.mem_filter.mpr ⟨?_, List.all_eq_true.mp h2 w hw⟩
  rw [h1] at hw
  obtain ⟨i, -, hi⟩ := List.mem_filterMap.mp hw
  exact List.mem_of_getElem? hi
theorem uin_X8 : ∀ w ∈ u_ws RX8 TX8 15, w ∈ lw_ws := by
  have h1 : u_ws RX8 TX8 15 = [631, 633, 635, 637, 639, 641, 643, 645, 647, 649, 651, 653, 655, 657, 659].filterMap (fun i => lw_tbl[i]?) := by decide +kernel
  have h2 : (u_ws RX8 TX8 15).all goodWord = true := by decide +kernel
  intro w hw
  refine List.mem_filter.mpr ⟨?_, List.all_eq_true.mp h2 w hw⟩
  rw [h1] at hw
  obtain ⟨i, -, hi⟩ := List.mem_filterMap.mp hw
  exact List.mem_of_getElem? hi
theorem wc_X7_init : Cond.code yX7_init cX7_init 1 none ∈ lw_ws := ws_mem 57 (by decide +kernel) rfl
theorem wc_objInit : Cond.code objectInit ⟨#[0xb1]⟩ 1 none ∈ lw_ws := ws_mem 60 (by decide +kernel) rfl
theorem wc_X3_init : Cond.code yX3_init cX3_init 2 none ∈ lw_ws := ws_mem 65 (by decide +kernel) rfl
theorem wc_X0_init : Cond.code yX0_init cX0_init 1 none ∈ lw_ws := ws_mem 74 (by decide +kernel) rfl
theorem wc_X1_init : Cond.code yX1_init cX1_init 1 none ∈ lw_ws := ws_mem 80 (by decide +kernel) rfl
theorem wc_X2_init : Cond.code yX2_init cX2_init 1 none ∈ lw_ws := ws_mem 149 (by decide +kernel) rfl
theorem wc_X4_init : Cond.code yX4_init cX4_init 2 none ∈ lw_ws := ws_mem 197 (by decide +kernel) rfl
theorem wc_X6_init : Cond.code yX6_init cX6_init 1 none ∈ lw_ws := ws_mem 214 (by decide +kernel) rfl
theorem wc_X5_init : Cond.code yX5_init cX5_init 2 none ∈ lw_ws := ws_mem 230 (by decide +kernel) rfl
theorem wc_X7_clock : Cond.code yX7_clock cX7_clock 6 (some .int) ∈ lw_ws := ws_mem 277 (by decide +kernel) rfl
theorem wc_X4_note : Cond.code yX4_note cX4_note 2 none ∈ lw_ws := ws_mem 281 (by decide +kernel) rfl
theorem wc_X3_copyFrom : Cond.code yX3_copyFrom cX3_copyFrom 3 none ∈ lw_ws := ws_mem 285 (by decide +kernel) rfl
theorem wc_X0_copyFrom : Cond.code yX0_copyFrom cX0_copyFrom 2 none ∈ lw_ws := ws_mem 289 (by decide +kernel) rfl
theorem wc_X1_copyFrom : Cond.code yX1_copyFrom cX1_copyFrom 2 none ∈ lw_ws := ws_mem 296 (by decide +kernel) rfl
theorem wc_X2_copyFrom : Cond.code yX2_copyFrom cX2_copyFrom 2 none ∈ lw_ws := ws_mem 300 (by decide +kernel) rfl
theorem wc_X3_addClock : Cond.code yX3_addClock cX3_addClock 7 (some .int) ∈ lw_ws := ws_mem 304 (by decide +kernel) rfl
theorem wc_X7_isClock : Cond.code yX7_isClock cX7_isClock 5 (some .boolean) ∈ lw_ws := ws_mem 307 (by decide +kernel) rfl
theorem wc_X7_isLaw : Cond.code yX7_isLaw cX7_isLaw 1 (some .boolean) ∈ lw_ws := ws_mem 310 (by decide +kernel) rfl
theorem wc_X7_isGap : Cond.code yX7_isGap cX7_isGap 1 (some .boolean) ∈ lw_ws := ws_mem 313 (by decide +kernel) rfl
theorem wc_X7_mayFollow : Cond.code yX7_mayFollow cX7_mayFollow 2 (some .boolean) ∈ lw_ws := ws_mem 316 (by decide +kernel) rfl
theorem wc_X0_set : Cond.code yX0_set cX0_set 6 none ∈ lw_ws := ws_mem 322 (by decide +kernel) rfl
theorem wc_X1_empty : Cond.code yX1_empty cX1_empty 1 none ∈ lw_ws := ws_mem 326 (by decide +kernel) rfl
theorem wc_X0_fillRound : Cond.code yX0_fillRound cX0_fillRound 2 none ∈ lw_ws := ws_mem 330 (by decide +kernel) rfl
theorem wc_X1_add : Cond.code yX1_add cX1_add 3 none ∈ lw_ws := ws_mem 334 (by decide +kernel) rfl
theorem wc_X3_beginGap : Cond.code yX3_beginGap cX3_beginGap 2 none ∈ lw_ws := ws_mem 338 (by decide +kernel) rfl
theorem wc_X3_draw : Cond.code yX3_draw cX3_draw 2 (some .int) ∈ lw_ws := ws_mem 342 (by decide +kernel) rfl
theorem wc_X0_placeInTurn : Cond.code yX0_placeInTurn cX0_placeInTurn 1 (some .int) ∈ lw_ws := ws_mem 346 (by decide +kernel) rfl
theorem wc_X0_beginAt : Cond.code yX0_beginAt cX0_beginAt 2 none ∈ lw_ws := ws_mem 350 (by decide +kernel) rfl
theorem wc_X7_settle : Cond.code yX7_settle cX7_settle 2 (some .int) ∈ lw_ws := ws_mem 354 (by decide +kernel) rfl
theorem wc_X4_keep : Cond.code yX4_keep cX4_keep 3 none ∈ lw_ws := ws_mem 358 (by decide +kernel) rfl
theorem wc_X7_wind : Cond.code yX7_wind cX7_wind 2 (some .int) ∈ lw_ws := ws_mem 362 (by decide +kernel) rfl
theorem wc_X3_windClock : Cond.code yX3_windClock cX3_windClock 3 (some .int) ∈ lw_ws := ws_mem 366 (by decide +kernel) rfl
theorem wc_X3_clockAt : Cond.code yX3_clockAt cX3_clockAt 2 (some (.object "RenewalClocks$Clock")) ∈ lw_ws := ws_mem 370 (by decide +kernel) rfl
theorem wc_X7_tick : Cond.code yX7_tick cX7_tick 2 (some .int) ∈ lw_ws := ws_mem 374 (by decide +kernel) rfl
theorem wc_X3_endTicks : Cond.code yX3_endTicks cX3_endTicks 4 (some .int) ∈ lw_ws := ws_mem 378 (by decide +kernel) rfl
theorem wc_X3_endTick : Cond.code yX3_endTick cX3_endTick 3 (some .int) ∈ lw_ws := ws_mem 383 (by decide +kernel) rfl
theorem wc_X0_passTick : Cond.code yX0_passTick cX0_passTick 1 (some .boolean) ∈ lw_ws := ws_mem 387 (by decide +kernel) rfl
theorem wc_X2_passTick : Cond.code yX2_passTick cX2_passTick 3 none ∈ lw_ws := ws_mem 391 (by decide +kernel) rfl
theorem wc_J6_bitCount_0f7a4 : Cond.code yJ6_bitCount_0f7a4 cJ6_bitCount_0f7a4 1 (some .int) ∈ lw_ws := ws_mem 394 (by decide +kernel) rfl
theorem wc_X7_passenger : Cond.code yX7_passenger cX7_passenger 2 (some .int) ∈ lw_ws := ws_mem 402 (by decide +kernel) rfl
theorem wc_X3_addPassenger : Cond.code yX3_addPassenger cX3_addPassenger 3 (some .int) ∈ lw_ws := ws_mem 406 (by decide +kernel) rfl
theorem wc_X7_group : Cond.code yX7_group cX7_group 2 (some .int) ∈ lw_ws := ws_mem 410 (by decide +kernel) rfl
theorem wc_X3_addGroup : Cond.code yX3_addGroup cX3_addGroup 2 (some .int) ∈ lw_ws := ws_mem 414 (by decide +kernel) rfl
theorem wc_X2_set : Cond.code yX2_set cX2_set 2 none ∈ lw_ws := ws_mem 419 (by decide +kernel) rfl
theorem wc_X7_join : Cond.code yX7_join cX7_join 3 (some .int) ∈ lw_ws := ws_mem 423 (by decide +kernel) rfl
theorem wc_X3_joinGroup : Cond.code yX3_joinGroup cX3_joinGroup 5 (some .int) ∈ lw_ws := ws_mem 427 (by decide +kernel) rfl
theorem wc_X3_groupAt : Cond.code yX3_groupAt cX3_groupAt 2 (some (.object "RenewalClocks$Group")) ∈ lw_ws := ws_mem 431 (by decide +kernel) rfl
theorem wc_X2_has : Cond.code yX2_has cX2_has 2 (some .boolean) ∈ lw_ws := ws_mem 435 (by decide +kernel) rfl
theorem wc_X2_size : Cond.code yX2_size cX2_size 1 (some .int) ∈ lw_ws := ws_mem 440 (by decide +kernel) rfl
theorem wc_X7_leave : Cond.code yX7_leave cX7_leave 3 (some .int) ∈ lw_ws := ws_mem 444 (by decide +kernel) rfl
theorem wc_X3_leaveGroup : Cond.code yX3_leaveGroup cX3_leaveGroup 4 (some .int) ∈ lw_ws := ws_mem 448 (by decide +kernel) rfl
theorem wc_X7_clockOf : Cond.code yX7_clockOf cX7_clockOf 4 (some .int) ∈ lw_ws := ws_mem 452 (by decide +kernel) rfl
theorem wc_X0_tell : Cond.code yX0_tell cX0_tell 2 (some .int) ∈ lw_ws := ws_mem 458 (by decide +kernel) rfl
theorem wc_X0_age : Cond.code yX0_age cX0_age 1 (some .int) ∈ lw_ws := ws_mem 462 (by decide +kernel) rfl
theorem wc_X7_mean : Cond.code yX7_mean cX7_mean 4 (some .long) ∈ lw_ws := ws_mem 467 (by decide +kernel) rfl
theorem wc_X1_meanOf : Cond.code yX1_meanOf cX1_meanOf 2 (some .double) ∈ lw_ws := ws_mem 472 (by decide +kernel) rfl
theorem wc_X7_bitsOf : Cond.code yX7_bitsOf cX7_bitsOf 9 (some .long) ∈ lw_ws := ws_mem 475 (by decide +kernel) rfl
theorem wc_X7_groupOf : Cond.code yX7_groupOf cX7_groupOf 4 (some .int) ∈ lw_ws := ws_mem 483 (by decide +kernel) rfl
theorem wc_X3_leastRest : Cond.code yX3_leastRest cX3_leastRest 5 (some .int) ∈ lw_ws := ws_mem 488 (by decide +kernel) rfl
theorem wc_X3_sumOver : Cond.code yX3_sumOver cX3_sumOver 5 (some .int) ∈ lw_ws := ws_mem 493 (by decide +kernel) rfl
theorem wc_X7_next : Cond.code yX7_next cX7_next 2 (some .int) ∈ lw_ws := ws_mem 498 (by decide +kernel) rfl
theorem wc_X3_clockInPlace : Cond.code yX3_clockInPlace cX3_clockInPlace 3 (some .int) ∈ lw_ws := ws_mem 502 (by decide +kernel) rfl
theorem wc_X3_clocksAhead : Cond.code yX3_clocksAhead cX3_clocksAhead 6 (some .int) ∈ lw_ws := ws_mem 506 (by decide +kernel) rfl
theorem wc_X7_would : Cond.code yX7_would cX7_would 7 (some .int) ∈ lw_ws := ws_mem 510 (by decide +kernel) rfl
theorem wc_X7_meets : Cond.code yX7_meets cX7_meets 5 (some .int) ∈ lw_ws := ws_mem 517 (by decide +kernel) rfl
theorem wc_X7_longer : Cond.code yX7_longer cX7_longer 1 (some .long) ∈ lw_ws := ws_mem 522 (by decide +kernel) rfl
theorem wc_X3_waitDueToAll : Cond.code yX3_waitDueToAll cX3_waitDueToAll 4 (some .double) ∈ lw_ws := ws_mem 526 (by decide +kernel) rfl
theorem wc_X7_count : Cond.code yX7_count cX7_count 2 (some .int) ∈ lw_ws := ws_mem 531 (by decide +kernel) rfl
theorem wc_X3_aboutToTell : Cond.code yX3_aboutToTell cX3_aboutToTell 3 (some .int) ∈ lw_ws := ws_mem 535 (by decide +kernel) rfl
theorem wc_X3_greatestAge : Cond.code yX3_greatestAge cX3_greatestAge 3 (some .int) ∈ lw_ws := ws_mem 539 (by decide +kernel) rfl
theorem wc_J9_max_7cf53 : Cond.code yJ9_max_7cf53 cJ9_max_7cf53 2 (some .int) ∈ lw_ws := ws_mem 543 (by decide +kernel) rfl
theorem wc_X7_undo : Cond.code yX7_undo cX7_undo 1 (some .int) ∈ lw_ws := ws_mem 547 (by decide +kernel) rfl
theorem wc_X4_restore : Cond.code yX4_restore cX4_restore 2 (some .boolean) ∈ lw_ws := ws_mem 551 (by decide +kernel) rfl
theorem wc_X7_type : Cond.code yX7_type cX7_type 2 (some .int) ∈ lw_ws := ws_mem 556 (by decide +kernel) rfl
theorem wc_X6_append : Cond.code yX6_append cX6_append 2 (some .boolean) ∈ lw_ws := ws_mem 560 (by decide +kernel) rfl
theorem wc_X7_clearText : Cond.code yX7_clearText cX7_clearText 2 (some .int) ∈ lw_ws := ws_mem 565 (by decide +kernel) rfl
theorem wc_X7_fault : Cond.code yX7_fault cX7_fault 2 (some .int) ∈ lw_ws := ws_mem 569 (by decide +kernel) rfl
theorem wc_X5_tryOut : Cond.code yX5_tryOut cX5_tryOut 5 none ∈ lw_ws := ws_mem 573 (by decide +kernel) rfl
theorem wc_X5_readOrder : Cond.code yX5_readOrder cX5_readOrder 4 (some .boolean) ∈ lw_ws := ws_mem 578 (by decide +kernel) rfl
theorem wc_X6_signAt : Cond.code yX6_signAt cX6_signAt 2 (some .char) ∈ lw_ws := ws_mem 582 (by decide +kernel) rfl
theorem wc_X5_numbersBehind : Cond.code yX5_numbersBehind cX5_numbersBehind 1 (some .int) ∈ lw_ws := ws_mem 585 (by decide +kernel) rfl
theorem wc_X5_readNumber : Cond.code yX5_readNumber cX5_readNumber 4 (some .boolean) ∈ lw_ws := ws_mem 589 (by decide +kernel) rfl
theorem wc_X5_isDigit : Cond.code yX5_isDigit cX5_isDigit 1 (some .boolean) ∈ lw_ws := ws_mem 592 (by decide +kernel) rfl
theorem wc_X5_setFault : Cond.code yX5_setFault cX5_setFault 3 none ∈ lw_ws := ws_mem 596 (by decide +kernel) rfl
theorem wc_X5_obey : Cond.code yX5_obey cX5_obey 2 (some .int) ∈ lw_ws := ws_mem 600 (by decide +kernel) rfl
theorem wc_X7_play : Cond.code yX7_play cX7_play 1 (some .int) ∈ lw_ws := ws_mem 609 (by decide +kernel) rfl
theorem wc_X8_init : Cond.code yX8_init cX8_init 1 none ∈ lw_ws := ws_mem 614 (by decide +kernel) rfl
theorem wc_X8_clock : Cond.code yX8_clock cX8_clock 8 (some .int) ∈ lw_ws := ws_mem 665 (by decide +kernel) rfl
theorem wc_X8_isLaw : Cond.code yX8_isLaw cX8_isLaw 6 (some .boolean) ∈ lw_ws := ws_mem 668 (by decide +kernel) rfl
theorem wc_X8_in : Cond.code yX8_in cX8_in 3 (some .boolean) ∈ lw_ws := ws_mem 671 (by decide +kernel) rfl
theorem wc_X8_changes : Cond.code yX8_changes cX8_changes 2 none ∈ lw_ws := ws_mem 677 (by decide +kernel) rfl
theorem wc_X8_sets : Cond.code yX8_sets cX8_sets 4 none ∈ lw_ws := ws_mem 681 (by decide +kernel) rfl
theorem wc_X8_begins : Cond.code yX8_begins cX8_begins 4 none ∈ lw_ws := ws_mem 685 (by decide +kernel) rfl
theorem wc_X8_of : Cond.code yX8_of cX8_of 3 (some .int) ∈ lw_ws := ws_mem 689 (by decide +kernel) rfl
theorem wc_X8_places : Cond.code yX8_places cX8_places 4 (some .int) ∈ lw_ws := ws_mem 693 (by decide +kernel) rfl
theorem wc_X8_draw : Cond.code yX8_draw cX8_draw 2 (some .int) ∈ lw_ws := ws_mem 697 (by decide +kernel) rfl
theorem wc_X8_gapAt : Cond.code yX8_gapAt cX8_gapAt 3 (some .int) ∈ lw_ws := ws_mem 701 (by decide +kernel) rfl
theorem wc_X8_wind : Cond.code yX8_wind cX8_wind 2 (some .int) ∈ lw_ws := ws_mem 705 (by decide +kernel) rfl
theorem wc_X8_isClock : Cond.code yX8_isClock cX8_isClock 2 (some .boolean) ∈ lw_ws := ws_mem 709 (by decide +kernel) rfl
theorem wc_X8_adds : Cond.code yX8_adds cX8_adds 4 none ∈ lw_ws := ws_mem 713 (by decide +kernel) rfl
theorem wc_X8_tick : Cond.code yX8_tick cX8_tick 2 (some .int) ∈ lw_ws := ws_mem 717 (by decide +kernel) rfl
theorem wc_X8_endsFor : Cond.code yX8_endsFor cX8_endsFor 4 (some .int) ∈ lw_ws := ws_mem 722 (by decide +kernel) rfl
theorem wc_X8_sum : Cond.code yX8_sum cX8_sum 4 (some .int) ∈ lw_ws := ws_mem 726 (by decide +kernel) rfl
theorem wc_X8_ends : Cond.code yX8_ends cX8_ends 4 none ∈ lw_ws := ws_mem 730 (by decide +kernel) rfl
theorem wc_X8_rest : Cond.code yX8_rest cX8_rest 2 (some .int) ∈ lw_ws := ws_mem 734 (by decide +kernel) rfl
theorem wc_X8_tells : Cond.code yX8_tells cX8_tells 3 none ∈ lw_ws := ws_mem 738 (by decide +kernel) rfl
theorem wc_X8_ofGroup : Cond.code yX8_ofGroup cX8_ofGroup 3 (some .int) ∈ lw_ws := ws_mem 742 (by decide +kernel) rfl
theorem wc_X8_ones : Cond.code yX8_ones cX8_ones 4 (some .int) ∈ lw_ws := ws_mem 746 (by decide +kernel) rfl
theorem wc_X8_passenger : Cond.code yX8_passenger cX8_passenger 2 (some .int) ∈ lw_ws := ws_mem 750 (by decide +kernel) rfl
theorem wc_X8_group : Cond.code yX8_group cX8_group 4 (some .int) ∈ lw_ws := ws_mem 754 (by decide +kernel) rfl
theorem wc_X8_join : Cond.code yX8_join cX8_join 4 (some .int) ∈ lw_ws := ws_mem 758 (by decide +kernel) rfl
theorem wc_X8_isGroup : Cond.code yX8_isGroup cX8_isGroup 2 (some .boolean) ∈ lw_ws := ws_mem 762 (by decide +kernel) rfl
theorem wc_X8_isIn : Cond.code yX8_isIn cX8_isIn 3 (some .boolean) ∈ lw_ws := ws_mem 766 (by decide +kernel) rfl
theorem wc_X8_leave : Cond.code yX8_leave cX8_leave 3 (some .int) ∈ lw_ws := ws_mem 771 (by decide +kernel) rfl
theorem wc_X8_clockOf : Cond.code yX8_clockOf cX8_clockOf 3 (some .int) ∈ lw_ws := ws_mem 775 (by decide +kernel) rfl
theorem wc_X8_mean : Cond.code yX8_mean cX8_mean 3 (some .long) ∈ lw_ws := ws_mem 780 (by decide +kernel) rfl
theorem wc_X8_lawMean : Cond.code yX8_lawMean cX8_lawMean 3 (some .double) ∈ lw_ws := ws_mem 785 (by decide +kernel) rfl
theorem wc_X8_ofLaw : Cond.code yX8_ofLaw cX8_ofLaw 6 (some .int) ∈ lw_ws := ws_mem 789 (by decide +kernel) rfl
theorem wc_X8_meanOf : Cond.code yX8_meanOf cX8_meanOf 4 (some .double) ∈ lw_ws := ws_mem 792 (by decide +kernel) rfl
theorem wc_Jxe99ae_doubleToLongBits_ccdee : Cond.code yJxe99ae_doubleToLongBits_ccdee cJxe99ae_doubleToLongBits_ccdee 2 (some .long) ∈ lw_ws := ws_mem 795 (by decide +kernel) rfl
theorem wc_Jxe99ae_isNaN_b9ae7 : Cond.code yJxe99ae_isNaN_b9ae7 cJxe99ae_isNaN_b9ae7 2 (some .boolean) ∈ lw_ws := ws_mem 798 (by decide +kernel) rfl
theorem wc_X8_groupOf : Cond.code yX8_groupOf cX8_groupOf 3 (some .int) ∈ lw_ws := ws_mem 807 (by decide +kernel) rfl
theorem wc_X8_leastRest : Cond.code yX8_leastRest cX8_leastRest 4 (some .int) ∈ lw_ws := ws_mem 811 (by decide +kernel) rfl
theorem wc_X8_sumIn : Cond.code yX8_sumIn cX8_sumIn 4 (some .int) ∈ lw_ws := ws_mem 815 (by decide +kernel) rfl
theorem wc_X8_next : Cond.code yX8_next cX8_next 5 (some .int) ∈ lw_ws := ws_mem 819 (by decide +kernel) rfl
theorem wc_X8_would : Cond.code yX8_would cX8_would 6 (some .int) ∈ lw_ws := ws_mem 823 (by decide +kernel) rfl
theorem wc_X8_copies : Cond.code yX8_copies cX8_copies 3 none ∈ lw_ws := ws_mem 826 (by decide +kernel) rfl
theorem wc_X8_meets : Cond.code yX8_meets cX8_meets 4 (some .int) ∈ lw_ws := ws_mem 830 (by decide +kernel) rfl
theorem wc_X8_longer : Cond.code yX8_longer cX8_longer 4 (some .long) ∈ lw_ws := ws_mem 834 (by decide +kernel) rfl
theorem wc_X8_count : Cond.code yX8_count cX8_count 2 (some .int) ∈ lw_ws := ws_mem 838 (by decide +kernel) rfl
theorem wc_X8_ending : Cond.code yX8_ending cX8_ending 3 (some .int) ∈ lw_ws := ws_mem 842 (by decide +kernel) rfl
theorem wc_X8_oldest : Cond.code yX8_oldest cX8_oldest 3 (some .int) ∈ lw_ws := ws_mem 846 (by decide +kernel) rfl
theorem wc_X8_undo : Cond.code yX8_undo cX8_undo 2 (some .int) ∈ lw_ws := ws_mem 850 (by decide +kernel) rfl
theorem wc_X8_type : Cond.code yX8_type cX8_type 2 (some .int) ∈ lw_ws := ws_mem 854 (by decide +kernel) rfl
theorem wc_X8_clearText : Cond.code yX8_clearText cX8_clearText 2 (some .int) ∈ lw_ws := ws_mem 858 (by decide +kernel) rfl
theorem wc_X8_fault : Cond.code yX8_fault cX8_fault 3 (some .int) ∈ lw_ws := ws_mem 862 (by decide +kernel) rfl
theorem wc_X8_plays : Cond.code yX8_plays cX8_plays 4 (some .boolean) ∈ lw_ws := ws_mem 866 (by decide +kernel) rfl
theorem wc_X8_reads : Cond.code yX8_reads cX8_reads 4 (some .boolean) ∈ lw_ws := ws_mem 870 (by decide +kernel) rfl
theorem wc_X8_isAt : Cond.code yX8_isAt cX8_isAt 3 (some .boolean) ∈ lw_ws := ws_mem 874 (by decide +kernel) rfl
theorem wc_X8_numbersOf : Cond.code yX8_numbersOf cX8_numbersOf 1 (some .int) ∈ lw_ws := ws_mem 877 (by decide +kernel) rfl
theorem wc_X8_numbered : Cond.code yX8_numbered cX8_numbered 3 (some .boolean) ∈ lw_ws := ws_mem 881 (by decide +kernel) rfl
theorem wc_X8_sign : Cond.code yX8_sign cX8_sign 3 (some .boolean) ∈ lw_ws := ws_mem 885 (by decide +kernel) rfl
theorem wc_X8_calls : Cond.code yX8_calls cX8_calls 1 (some .int) ∈ lw_ws := ws_mem 889 (by decide +kernel) rfl
theorem wc_X8_play : Cond.code yX8_play cX8_play 2 (some .int) ∈ lw_ws := ws_mem 898 (by decide +kernel) rfl
theorem wz_L : Cond.initialized RL ∈ lw_ws := ws_mem 39 (by decide +kernel) rfl
theorem wz_X7 : Cond.initialized RX7 ∈ lw_ws := ws_mem 40 (by decide +kernel) rfl
theorem wz_X3 : Cond.initialized RX3 ∈ lw_ws := ws_mem 41 (by decide +kernel) rfl
theorem wz_X0 : Cond.initialized RX0 ∈ lw_ws := ws_mem 42 (by decide +kernel) rfl
theorem wz_X1 : Cond.initialized RX1 ∈ lw_ws := ws_mem 43 (by decide +kernel) rfl
theorem wz_X2 : Cond.initialized RX2 ∈ lw_ws := ws_mem 44 (by decide +kernel) rfl
theorem wz_X4 : Cond.initialized RX4 ∈ lw_ws := ws_mem 45 (by decide +kernel) rfl
theorem wz_X6 : Cond.initialized RX6 ∈ lw_ws := ws_mem 46 (by decide +kernel) rfl
theorem wz_X5 : Cond.initialized RX5 ∈ lw_ws := ws_mem 47 (by decide +kernel) rfl
theorem wz_X8 : Cond.initialized RX8 ∈ lw_ws := ws_mem 48 (by decide +kernel) rfl
theorem wz_J10 : Cond.initialized RJ10 ∈ lw_ws := ws_mem 49 (by decide +kernel) rfl
theorem wz_J6 : Cond.initialized RJ6 ∈ lw_ws := ws_mem 50 (by decide +kernel) rfl
theorem wz_Jxe99ae : Cond.initialized RJxe99ae ∈ lw_ws := ws_mem 51 (by decide +kernel) rfl
theorem wz_J9 : Cond.initialized RJ9 ∈ lw_ws := ws_mem 52 (by decide +kernel) rfl
theorem wcl_L_7 : Cond.classLink RL 7 RX7 ∈ lw_ws := ws_mem 53 (by decide +kernel) rfl
theorem win_X7 : Cond.instantiable RX7 5 ∈ lw_ws := ws_mem 54 (by decide +kernel) rfl
theorem wi_X7_init : Cond.instanceMethod yX7_init ∈ lw_ws := ws_mem 56 (by decide +kernel) rfl
theorem wi_objInit : Cond.instanceMethod objectInit ∈ lw_ws := ws_mem 59 (by decide +kernel) rfl
theorem wcl_X7_9 : Cond.classLink RX7 9 RX3 ∈ lw_ws := ws_mem 61 (by decide +kernel) rfl
theorem win_X3 : Cond.instantiable RX3 6 ∈ lw_ws := ws_mem 62 (by decide +kernel) rfl
theorem wi_X3_init : Cond.instanceMethod yX3_init ∈ lw_ws := ws_mem 64 (by decide +kernel) rfl
theorem wcl_X3_9 : Cond.classLink RX3 9 RX0 ∈ lw_ws := ws_mem 67 (by decide +kernel) rfl
theorem wcl_X3_17 : Cond.classLink RX3 17 RX2 ∈ lw_ws := ws_mem 69 (by decide +kernel) rfl
theorem win_X0 : Cond.instantiable RX0 10 ∈ lw_ws := ws_mem 71 (by decide +kernel) rfl
theorem wi_X0_init : Cond.instanceMethod yX0_init ∈ lw_ws := ws_mem 73 (by decide +kernel) rfl
theorem wcl_X0_15 : Cond.classLink RX0 15 RX1 ∈ lw_ws := ws_mem 76 (by decide +kernel) rfl
theorem win_X1 : Cond.instantiable RX1 5 ∈ lw_ws := ws_mem 77 (by decide +kernel) rfl
theorem wi_X1_init : Cond.instanceMethod yX1_init ∈ lw_ws := ws_mem 79 (by decide +kernel) rfl
theorem wac_int : Cond.arrayClass .int ∈ lw_ws := ws_mem 103 (by decide +kernel) rfl
theorem win_X2 : Cond.instantiable RX2 4 ∈ lw_ws := ws_mem 146 (by decide +kernel) rfl
theorem wi_X2_init : Cond.instanceMethod yX2_init ∈ lw_ws := ws_mem 148 (by decide +kernel) rfl
theorem wcl_X7_19 : Cond.classLink RX7 19 RX4 ∈ lw_ws := ws_mem 193 (by decide +kernel) rfl
theorem win_X4 : Cond.instantiable RX4 2 ∈ lw_ws := ws_mem 194 (by decide +kernel) rfl
theorem wi_X4_init : Cond.instanceMethod yX4_init ∈ lw_ws := ws_mem 196 (by decide +kernel) rfl
theorem wcl_X4_9 : Cond.classLink RX4 9 RX3 ∈ lw_ws := ws_mem 199 (by decide +kernel) rfl
theorem wcl_X7_26 : Cond.classLink RX7 26 RX6 ∈ lw_ws := ws_mem 210 (by decide +kernel) rfl
theorem win_X6 : Cond.instantiable RX6 2 ∈ lw_ws := ws_mem 211 (by decide +kernel) rfl
theorem wi_X6_init : Cond.instanceMethod yX6_init ∈ lw_ws := ws_mem 213 (by decide +kernel) rfl
theorem wac_char : Cond.arrayClass .char ∈ lw_ws := ws_mem 225 (by decide +kernel) rfl
theorem wcl_X7_33 : Cond.classLink RX7 33 RX5 ∈ lw_ws := ws_mem 226 (by decide +kernel) rfl
theorem win_X5 : Cond.instantiable RX5 7 ∈ lw_ws := ws_mem 227 (by decide +kernel) rfl
theorem wi_X5_init : Cond.instanceMethod yX5_init ∈ lw_ws := ws_mem 229 (by decide +kernel) rfl
theorem wi_X7_clock : Cond.instanceMethod yX7_clock ∈ lw_ws := ws_mem 275 (by decide +kernel) rfl
theorem wi_X4_note : Cond.instanceMethod yX4_note ∈ lw_ws := ws_mem 279 (by decide +kernel) rfl
theorem wi_X3_copyFrom : Cond.instanceMethod yX3_copyFrom ∈ lw_ws := ws_mem 283 (by decide +kernel) rfl
theorem wi_X0_copyFrom : Cond.instanceMethod yX0_copyFrom ∈ lw_ws := ws_mem 287 (by decide +kernel) rfl
theorem wt_arraycopy : Cond.static arraycopyName ∈ lw_ws := ws_mem 291 (by decide +kernel) rfl
theorem wn_arraycopy : Cond.native arraycopyName ∈ lw_ws := ws_mem 292 (by decide +kernel) rfl
theorem wi_X1_copyFrom : Cond.instanceMethod yX1_copyFrom ∈ lw_ws := ws_mem 294 (by decide +kernel) rfl
theorem wi_X2_copyFrom : Cond.instanceMethod yX2_copyFrom ∈ lw_ws := ws_mem 298 (by decide +kernel) rfl
theorem wi_X3_addClock : Cond.instanceMethod yX3_addClock ∈ lw_ws := ws_mem 302 (by decide +kernel) rfl
theorem wt_X7_isClock : Cond.static yX7_isClock ∈ lw_ws := ws_mem 306 (by decide +kernel) rfl
theorem wt_X7_isLaw : Cond.static yX7_isLaw ∈ lw_ws := ws_mem 309 (by decide +kernel) rfl
theorem wt_X7_isGap : Cond.static yX7_isGap ∈ lw_ws := ws_mem 312 (by decide +kernel) rfl
theorem wt_X7_mayFollow : Cond.static yX7_mayFollow ∈ lw_ws := ws_mem 315 (by decide +kernel) rfl
theorem wi_X0_set : Cond.instanceMethod yX0_set ∈ lw_ws := ws_mem 320 (by decide +kernel) rfl
theorem wi_X1_empty : Cond.instanceMethod yX1_empty ∈ lw_ws := ws_mem 324 (by decide +kernel) rfl
theorem wi_X0_fillRound : Cond.instanceMethod yX0_fillRound ∈ lw_ws := ws_mem 329 (by decide +kernel) rfl
theorem wi_X1_add : Cond.instanceMethod yX1_add ∈ lw_ws := ws_mem 332 (by decide +kernel) rfl
theorem wi_X3_beginGap : Cond.instanceMethod yX3_beginGap ∈ lw_ws := ws_mem 337 (by decide +kernel) rfl
theorem wi_X3_draw : Cond.instanceMethod yX3_draw ∈ lw_ws := ws_mem 341 (by decide +kernel) rfl
theorem wi_X0_placeInTurn : Cond.instanceMethod yX0_placeInTurn ∈ lw_ws := ws_mem 344 (by decide +kernel) rfl
theorem wi_X0_beginAt : Cond.instanceMethod yX0_beginAt ∈ lw_ws := ws_mem 348 (by decide +kernel) rfl
theorem wi_X7_settle : Cond.instanceMethod yX7_settle ∈ lw_ws := ws_mem 353 (by decide +kernel) rfl
theorem wi_X4_keep : Cond.instanceMethod yX4_keep ∈ lw_ws := ws_mem 356 (by decide +kernel) rfl
theorem wi_X7_wind : Cond.instanceMethod yX7_wind ∈ lw_ws := ws_mem 360 (by decide +kernel) rfl
theorem wi_X3_windClock : Cond.instanceMethod yX3_windClock ∈ lw_ws := ws_mem 364 (by decide +kernel) rfl
theorem wi_X3_clockAt : Cond.instanceMethod yX3_clockAt ∈ lw_ws := ws_mem 368 (by decide +kernel) rfl
theorem wi_X7_tick : Cond.instanceMethod yX7_tick ∈ lw_ws := ws_mem 372 (by decide +kernel) rfl
theorem wi_X3_endTicks : Cond.instanceMethod yX3_endTicks ∈ lw_ws := ws_mem 376 (by decide +kernel) rfl
theorem wi_X3_endTick : Cond.instanceMethod yX3_endTick ∈ lw_ws := ws_mem 381 (by decide +kernel) rfl
theorem wi_X0_passTick : Cond.instanceMethod yX0_passTick ∈ lw_ws := ws_mem 385 (by decide +kernel) rfl
theorem wi_X2_passTick : Cond.instanceMethod yX2_passTick ∈ lw_ws := ws_mem 389 (by decide +kernel) rfl
theorem wt_J6_bitCount_0f7a4 : Cond.static yJ6_bitCount_0f7a4 ∈ lw_ws := ws_mem 393 (by decide +kernel) rfl
theorem wi_X7_passenger : Cond.instanceMethod yX7_passenger ∈ lw_ws := ws_mem 400 (by decide +kernel) rfl
theorem wi_X3_addPassenger : Cond.instanceMethod yX3_addPassenger ∈ lw_ws := ws_mem 404 (by decide +kernel) rfl
theorem wi_X7_group : Cond.instanceMethod yX7_group ∈ lw_ws := ws_mem 408 (by decide +kernel) rfl
theorem wi_X3_addGroup : Cond.instanceMethod yX3_addGroup ∈ lw_ws := ws_mem 412 (by decide +kernel) rfl
theorem wi_X2_set : Cond.instanceMethod yX2_set ∈ lw_ws := ws_mem 417 (by decide +kernel) rfl
theorem wi_X7_join : Cond.instanceMethod yX7_join ∈ lw_ws := ws_mem 421 (by decide +kernel) rfl
theorem wi_X3_joinGroup : Cond.instanceMethod yX3_joinGroup ∈ lw_ws := ws_mem 425 (by decide +kernel) rfl
theorem wi_X3_groupAt : Cond.instanceMethod yX3_groupAt ∈ lw_ws := ws_mem 429 (by decide +kernel) rfl
theorem wi_X2_has : Cond.instanceMethod yX2_has ∈ lw_ws := ws_mem 433 (by decide +kernel) rfl
theorem wi_X2_size : Cond.instanceMethod yX2_size ∈ lw_ws := ws_mem 438 (by decide +kernel) rfl
theorem wi_X7_leave : Cond.instanceMethod yX7_leave ∈ lw_ws := ws_mem 442 (by decide +kernel) rfl
theorem wi_X3_leaveGroup : Cond.instanceMethod yX3_leaveGroup ∈ lw_ws := ws_mem 446 (by decide +kernel) rfl
theorem wi_X7_clockOf : Cond.instanceMethod yX7_clockOf ∈ lw_ws := ws_mem 450 (by decide +kernel) rfl
theorem wi_X0_tell : Cond.instanceMethod yX0_tell ∈ lw_ws := ws_mem 456 (by decide +kernel) rfl
theorem wi_X0_age : Cond.instanceMethod yX0_age ∈ lw_ws := ws_mem 460 (by decide +kernel) rfl
theorem wi_X7_mean : Cond.instanceMethod yX7_mean ∈ lw_ws := ws_mem 465 (by decide +kernel) rfl
theorem wi_X1_meanOf : Cond.instanceMethod yX1_meanOf ∈ lw_ws := ws_mem 470 (by decide +kernel) rfl
theorem wt_X7_bitsOf : Cond.static yX7_bitsOf ∈ lw_ws := ws_mem 474 (by decide +kernel) rfl
theorem wi_X7_groupOf : Cond.instanceMethod yX7_groupOf ∈ lw_ws := ws_mem 481 (by decide +kernel) rfl
theorem wi_X3_leastRest : Cond.instanceMethod yX3_leastRest ∈ lw_ws := ws_mem 486 (by decide +kernel) rfl
theorem wi_X3_sumOver : Cond.instanceMethod yX3_sumOver ∈ lw_ws := ws_mem 491 (by decide +kernel) rfl
theorem wi_X7_next : Cond.instanceMethod yX7_next ∈ lw_ws := ws_mem 496 (by decide +kernel) rfl
theorem wi_X3_clockInPlace : Cond.instanceMethod yX3_clockInPlace ∈ lw_ws := ws_mem 500 (by decide +kernel) rfl
theorem wi_X3_clocksAhead : Cond.instanceMethod yX3_clocksAhead ∈ lw_ws := ws_mem 505 (by decide +kernel) rfl
theorem wi_X7_would : Cond.instanceMethod yX7_would ∈ lw_ws := ws_mem 508 (by decide +kernel) rfl
theorem wi_X7_meets : Cond.instanceMethod yX7_meets ∈ lw_ws := ws_mem 515 (by decide +kernel) rfl
theorem wi_X7_longer : Cond.instanceMethod yX7_longer ∈ lw_ws := ws_mem 520 (by decide +kernel) rfl
theorem wi_X3_waitDueToAll : Cond.instanceMethod yX3_waitDueToAll ∈ lw_ws := ws_mem 524 (by decide +kernel) rfl
theorem wi_X7_count : Cond.instanceMethod yX7_count ∈ lw_ws := ws_mem 529 (by decide +kernel) rfl
theorem wi_X3_aboutToTell : Cond.instanceMethod yX3_aboutToTell ∈ lw_ws := ws_mem 533 (by decide +kernel) rfl
theorem wi_X3_greatestAge : Cond.instanceMethod yX3_greatestAge ∈ lw_ws := ws_mem 537 (by decide +kernel) rfl
theorem wt_J9_max_7cf53 : Cond.static yJ9_max_7cf53 ∈ lw_ws := ws_mem 542 (by decide +kernel) rfl
theorem wi_X7_undo : Cond.instanceMethod yX7_undo ∈ lw_ws := ws_mem 545 (by decide +kernel) rfl
theorem wi_X4_restore : Cond.instanceMethod yX4_restore ∈ lw_ws := ws_mem 549 (by decide +kernel) rfl
theorem wi_X7_type : Cond.instanceMethod yX7_type ∈ lw_ws := ws_mem 554 (by decide +kernel) rfl
theorem wi_X6_append : Cond.instanceMethod yX6_append ∈ lw_ws := ws_mem 558 (by decide +kernel) rfl
theorem wi_X7_clearText : Cond.instanceMethod yX7_clearText ∈ lw_ws := ws_mem 563 (by decide +kernel) rfl
theorem wi_X7_fault : Cond.instanceMethod yX7_fault ∈ lw_ws := ws_mem 567 (by decide +kernel) rfl
theorem wi_X5_tryOut : Cond.instanceMethod yX5_tryOut ∈ lw_ws := ws_mem 571 (by decide +kernel) rfl
theorem wi_X5_readOrder : Cond.instanceMethod yX5_readOrder ∈ lw_ws := ws_mem 577 (by decide +kernel) rfl
theorem wi_X6_signAt : Cond.instanceMethod yX6_signAt ∈ lw_ws := ws_mem 580 (by decide +kernel) rfl
theorem wt_X5_numbersBehind : Cond.static yX5_numbersBehind ∈ lw_ws := ws_mem 584 (by decide +kernel) rfl
theorem wi_X5_readNumber : Cond.instanceMethod yX5_readNumber ∈ lw_ws := ws_mem 588 (by decide +kernel) rfl
theorem wt_X5_isDigit : Cond.static yX5_isDigit ∈ lw_ws := ws_mem 591 (by decide +kernel) rfl
theorem wi_X5_setFault : Cond.instanceMethod yX5_setFault ∈ lw_ws := ws_mem 595 (by decide +kernel) rfl
theorem wi_X5_obey : Cond.instanceMethod yX5_obey ∈ lw_ws := ws_mem 599 (by decide +kernel) rfl
theorem wi_X7_play : Cond.instanceMethod yX7_play ∈ lw_ws := ws_mem 607 (by decide +kernel) rfl
theorem wcl_L_10 : Cond.classLink RL 10 RX8 ∈ lw_ws := ws_mem 610 (by decide +kernel) rfl
theorem win_X8 : Cond.instantiable RX8 15 ∈ lw_ws := ws_mem 611 (by decide +kernel) rfl
theorem wi_X8_init : Cond.instanceMethod yX8_init ∈ lw_ws := ws_mem 613 (by decide +kernel) rfl
theorem wi_X8_clock : Cond.instanceMethod yX8_clock ∈ lw_ws := ws_mem 663 (by decide +kernel) rfl
theorem wt_X8_isLaw : Cond.static yX8_isLaw ∈ lw_ws := ws_mem 667 (by decide +kernel) rfl
theorem wt_X8_in : Cond.static yX8_in ∈ lw_ws := ws_mem 670 (by decide +kernel) rfl
theorem wi_X8_changes : Cond.instanceMethod yX8_changes ∈ lw_ws := ws_mem 676 (by decide +kernel) rfl
theorem wi_X8_sets : Cond.instanceMethod yX8_sets ∈ lw_ws := ws_mem 680 (by decide +kernel) rfl
theorem wi_X8_begins : Cond.instanceMethod yX8_begins ∈ lw_ws := ws_mem 684 (by decide +kernel) rfl
theorem wi_X8_of : Cond.instanceMethod yX8_of ∈ lw_ws := ws_mem 688 (by decide +kernel) rfl
theorem wi_X8_places : Cond.instanceMethod yX8_places ∈ lw_ws := ws_mem 692 (by decide +kernel) rfl
theorem wi_X8_draw : Cond.instanceMethod yX8_draw ∈ lw_ws := ws_mem 696 (by decide +kernel) rfl
theorem wi_X8_gapAt : Cond.instanceMethod yX8_gapAt ∈ lw_ws := ws_mem 700 (by decide +kernel) rfl
theorem wi_X8_wind : Cond.instanceMethod yX8_wind ∈ lw_ws := ws_mem 703 (by decide +kernel) rfl
theorem wi_X8_isClock : Cond.instanceMethod yX8_isClock ∈ lw_ws := ws_mem 708 (by decide +kernel) rfl
theorem wi_X8_adds : Cond.instanceMethod yX8_adds ∈ lw_ws := ws_mem 712 (by decide +kernel) rfl
theorem wi_X8_tick : Cond.instanceMethod yX8_tick ∈ lw_ws := ws_mem 715 (by decide +kernel) rfl
theorem wi_X8_endsFor : Cond.instanceMethod yX8_endsFor ∈ lw_ws := ws_mem 721 (by decide +kernel) rfl
theorem wi_X8_sum : Cond.instanceMethod yX8_sum ∈ lw_ws := ws_mem 725 (by decide +kernel) rfl
theorem wi_X8_ends : Cond.instanceMethod yX8_ends ∈ lw_ws := ws_mem 729 (by decide +kernel) rfl
theorem wi_X8_rest : Cond.instanceMethod yX8_rest ∈ lw_ws := ws_mem 733 (by decide +kernel) rfl
theorem wi_X8_tells : Cond.instanceMethod yX8_tells ∈ lw_ws := ws_mem 737 (by decide +kernel) rfl
theorem wi_X8_ofGroup : Cond.instanceMethod yX8_ofGroup ∈ lw_ws := ws_mem 741 (by decide +kernel) rfl
theorem wi_X8_ones : Cond.instanceMethod yX8_ones ∈ lw_ws := ws_mem 745 (by decide +kernel) rfl
theorem wi_X8_passenger : Cond.instanceMethod yX8_passenger ∈ lw_ws := ws_mem 748 (by decide +kernel) rfl
theorem wi_X8_group : Cond.instanceMethod yX8_group ∈ lw_ws := ws_mem 752 (by decide +kernel) rfl
theorem wi_X8_join : Cond.instanceMethod yX8_join ∈ lw_ws := ws_mem 756 (by decide +kernel) rfl
theorem wi_X8_isGroup : Cond.instanceMethod yX8_isGroup ∈ lw_ws := ws_mem 761 (by decide +kernel) rfl
theorem wi_X8_isIn : Cond.instanceMethod yX8_isIn ∈ lw_ws := ws_mem 765 (by decide +kernel) rfl
theorem wi_X8_leave : Cond.instanceMethod yX8_leave ∈ lw_ws := ws_mem 769 (by decide +kernel) rfl
theorem wi_X8_clockOf : Cond.instanceMethod yX8_clockOf ∈ lw_ws := ws_mem 773 (by decide +kernel) rfl
theorem wi_X8_mean : Cond.instanceMethod yX8_mean ∈ lw_ws := ws_mem 778 (by decide +kernel) rfl
theorem wi_X8_lawMean : Cond.instanceMethod yX8_lawMean ∈ lw_ws := ws_mem 784 (by decide +kernel) rfl
theorem wi_X8_ofLaw : Cond.instanceMethod yX8_ofLaw ∈ lw_ws := ws_mem 788 (by decide +kernel) rfl
theorem wt_X8_meanOf : Cond.static yX8_meanOf ∈ lw_ws := ws_mem 791 (by decide +kernel) rfl
theorem wt_Jxe99ae_doubleToLongBits_ccdee : Cond.static yJxe99ae_doubleToLongBits_ccdee ∈ lw_ws := ws_mem 794 (by decide +kernel) rfl
theorem wt_Jxe99ae_isNaN_b9ae7 : Cond.static yJxe99ae_isNaN_b9ae7 ∈ lw_ws := ws_mem 797 (by decide +kernel) rfl
theorem wt_d2raw : Cond.static ⟨"java/lang/Double", "doubleToRawLongBits", "(D)J"⟩ ∈ lw_ws := ws_mem 800 (by decide +kernel) rfl
theorem wn_d2raw : Cond.native ⟨"java/lang/Double", "doubleToRawLongBits", "(D)J"⟩ ∈ lw_ws := ws_mem 801 (by decide +kernel) rfl
theorem wi_X8_groupOf : Cond.instanceMethod yX8_groupOf ∈ lw_ws := ws_mem 805 (by decide +kernel) rfl
theorem wi_X8_leastRest : Cond.instanceMethod yX8_leastRest ∈ lw_ws := ws_mem 810 (by decide +kernel) rfl
theorem wi_X8_sumIn : Cond.instanceMethod yX8_sumIn ∈ lw_ws := ws_mem 814 (by decide +kernel) rfl
theorem wi_X8_next : Cond.instanceMethod yX8_next ∈ lw_ws := ws_mem 817 (by decide +kernel) rfl
theorem wi_X8_would : Cond.instanceMethod yX8_would ∈ lw_ws := ws_mem 821 (by decide +kernel) rfl
theorem wt_X8_copies : Cond.static yX8_copies ∈ lw_ws := ws_mem 825 (by decide +kernel) rfl
theorem wi_X8_meets : Cond.instanceMethod yX8_meets ∈ lw_ws := ws_mem 828 (by decide +kernel) rfl
theorem wi_X8_longer : Cond.instanceMethod yX8_longer ∈ lw_ws := ws_mem 832 (by decide +kernel) rfl
theorem wi_X8_count : Cond.instanceMethod yX8_count ∈ lw_ws := ws_mem 836 (by decide +kernel) rfl
theorem wi_X8_ending : Cond.instanceMethod yX8_ending ∈ lw_ws := ws_mem 841 (by decide +kernel) rfl
theorem wi_X8_oldest : Cond.instanceMethod yX8_oldest ∈ lw_ws := ws_mem 845 (by decide +kernel) rfl
theorem wi_X8_undo : Cond.instanceMethod yX8_undo ∈ lw_ws := ws_mem 848 (by decide +kernel) rfl
theorem wi_X8_type : Cond.instanceMethod yX8_type ∈ lw_ws := ws_mem 852 (by decide +kernel) rfl
theorem wi_X8_clearText : Cond.instanceMethod yX8_clearText ∈ lw_ws := ws_mem 856 (by decide +kernel) rfl
theorem wi_X8_fault : Cond.instanceMethod yX8_fault ∈ lw_ws := ws_mem 860 (by decide +kernel) rfl
theorem wi_X8_plays : Cond.instanceMethod yX8_plays ∈ lw_ws := ws_mem 865 (by decide +kernel) rfl
theorem wi_X8_reads : Cond.instanceMethod yX8_reads ∈ lw_ws := ws_mem 869 (by decide +kernel) rfl
theorem wi_X8_isAt : Cond.instanceMethod yX8_isAt ∈ lw_ws := ws_mem 873 (by decide +kernel) rfl
theorem wt_X8_numbersOf : Cond.static yX8_numbersOf ∈ lw_ws := ws_mem 876 (by decide +kernel) rfl
theorem wi_X8_numbered : Cond.instanceMethod yX8_numbered ∈ lw_ws := ws_mem 880 (by decide +kernel) rfl
theorem wi_X8_sign : Cond.instanceMethod yX8_sign ∈ lw_ws := ws_mem 884 (by decide +kernel) rfl
theorem wi_X8_calls : Cond.instanceMethod yX8_calls ∈ lw_ws := ws_mem 888 (by decide +kernel) rfl
theorem wi_X8_play : Cond.instanceMethod yX8_play ∈ lw_ws := ws_mem 896 (by decide +kernel) rfl
theorem ws_X7_clock : Cond.selects RX7 yX7_clock yX7_clock ∈ lw_ws := ws_mem 276 (by decide +kernel) rfl
theorem ws_X4_note : Cond.selects RX4 yX4_note yX4_note ∈ lw_ws := ws_mem 280 (by decide +kernel) rfl
theorem ws_X3_copyFrom : Cond.selects RX3 yX3_copyFrom yX3_copyFrom ∈ lw_ws := ws_mem 284 (by decide +kernel) rfl
theorem ws_X0_copyFrom : Cond.selects RX0 yX0_copyFrom yX0_copyFrom ∈ lw_ws := ws_mem 288 (by decide +kernel) rfl
theorem ws_X1_copyFrom : Cond.selects RX1 yX1_copyFrom yX1_copyFrom ∈ lw_ws := ws_mem 295 (by decide +kernel) rfl
theorem ws_X2_copyFrom : Cond.selects RX2 yX2_copyFrom yX2_copyFrom ∈ lw_ws := ws_mem 299 (by decide +kernel) rfl
theorem ws_X3_addClock : Cond.selects RX3 yX3_addClock yX3_addClock ∈ lw_ws := ws_mem 303 (by decide +kernel) rfl
theorem ws_X0_set : Cond.selects RX0 yX0_set yX0_set ∈ lw_ws := ws_mem 321 (by decide +kernel) rfl
theorem ws_X1_empty : Cond.selects RX1 yX1_empty yX1_empty ∈ lw_ws := ws_mem 325 (by decide +kernel) rfl
theorem ws_X1_add : Cond.selects RX1 yX1_add yX1_add ∈ lw_ws := ws_mem 333 (by decide +kernel) rfl
theorem ws_X0_placeInTurn : Cond.selects RX0 yX0_placeInTurn yX0_placeInTurn ∈ lw_ws := ws_mem 345 (by decide +kernel) rfl
theorem ws_X0_beginAt : Cond.selects RX0 yX0_beginAt yX0_beginAt ∈ lw_ws := ws_mem 349 (by decide +kernel) rfl
theorem ws_X4_keep : Cond.selects RX4 yX4_keep yX4_keep ∈ lw_ws := ws_mem 357 (by decide +kernel) rfl
theorem ws_X7_wind : Cond.selects RX7 yX7_wind yX7_wind ∈ lw_ws := ws_mem 361 (by decide +kernel) rfl
theorem ws_X3_windClock : Cond.selects RX3 yX3_windClock yX3_windClock ∈ lw_ws := ws_mem 365 (by decide +kernel) rfl
theorem ws_X3_clockAt : Cond.selects RX3 yX3_clockAt yX3_clockAt ∈ lw_ws := ws_mem 369 (by decide +kernel) rfl
theorem ws_X7_tick : Cond.selects RX7 yX7_tick yX7_tick ∈ lw_ws := ws_mem 373 (by decide +kernel) rfl
theorem ws_X3_endTicks : Cond.selects RX3 yX3_endTicks yX3_endTicks ∈ lw_ws := ws_mem 377 (by decide +kernel) rfl
theorem ws_X3_endTick : Cond.selects RX3 yX3_endTick yX3_endTick ∈ lw_ws := ws_mem 382 (by decide +kernel) rfl
theorem ws_X0_passTick : Cond.selects RX0 yX0_passTick yX0_passTick ∈ lw_ws := ws_mem 386 (by decide +kernel) rfl
theorem ws_X2_passTick : Cond.selects RX2 yX2_passTick yX2_passTick ∈ lw_ws := ws_mem 390 (by decide +kernel) rfl
theorem ws_X7_passenger : Cond.selects RX7 yX7_passenger yX7_passenger ∈ lw_ws := ws_mem 401 (by decide +kernel) rfl
theorem ws_X3_addPassenger : Cond.selects RX3 yX3_addPassenger yX3_addPassenger ∈ lw_ws := ws_mem 405 (by decide +kernel) rfl
theorem ws_X7_group : Cond.selects RX7 yX7_group yX7_group ∈ lw_ws := ws_mem 409 (by decide +kernel) rfl
theorem ws_X3_addGroup : Cond.selects RX3 yX3_addGroup yX3_addGroup ∈ lw_ws := ws_mem 413 (by decide +kernel) rfl
theorem ws_X2_set : Cond.selects RX2 yX2_set yX2_set ∈ lw_ws := ws_mem 418 (by decide +kernel) rfl
theorem ws_X7_join : Cond.selects RX7 yX7_join yX7_join ∈ lw_ws := ws_mem 422 (by decide +kernel) rfl
theorem ws_X3_joinGroup : Cond.selects RX3 yX3_joinGroup yX3_joinGroup ∈ lw_ws := ws_mem 426 (by decide +kernel) rfl
theorem ws_X3_groupAt : Cond.selects RX3 yX3_groupAt yX3_groupAt ∈ lw_ws := ws_mem 430 (by decide +kernel) rfl
theorem ws_X2_has : Cond.selects RX2 yX2_has yX2_has ∈ lw_ws := ws_mem 434 (by decide +kernel) rfl
theorem ws_X2_size : Cond.selects RX2 yX2_size yX2_size ∈ lw_ws := ws_mem 439 (by decide +kernel) rfl
theorem ws_X7_leave : Cond.selects RX7 yX7_leave yX7_leave ∈ lw_ws := ws_mem 443 (by decide +kernel) rfl
theorem ws_X3_leaveGroup : Cond.selects RX3 yX3_leaveGroup yX3_leaveGroup ∈ lw_ws := ws_mem 447 (by decide +kernel) rfl
theorem ws_X7_clockOf : Cond.selects RX7 yX7_clockOf yX7_clockOf ∈ lw_ws := ws_mem 451 (by decide +kernel) rfl
theorem ws_X0_tell : Cond.selects RX0 yX0_tell yX0_tell ∈ lw_ws := ws_mem 457 (by decide +kernel) rfl
theorem ws_X0_age : Cond.selects RX0 yX0_age yX0_age ∈ lw_ws := ws_mem 461 (by decide +kernel) rfl
theorem ws_X7_mean : Cond.selects RX7 yX7_mean yX7_mean ∈ lw_ws := ws_mem 466 (by decide +kernel) rfl
theorem ws_X1_meanOf : Cond.selects RX1 yX1_meanOf yX1_meanOf ∈ lw_ws := ws_mem 471 (by decide +kernel) rfl
theorem ws_X7_groupOf : Cond.selects RX7 yX7_groupOf yX7_groupOf ∈ lw_ws := ws_mem 482 (by decide +kernel) rfl
theorem ws_X3_leastRest : Cond.selects RX3 yX3_leastRest yX3_leastRest ∈ lw_ws := ws_mem 487 (by decide +kernel) rfl
theorem ws_X3_sumOver : Cond.selects RX3 yX3_sumOver yX3_sumOver ∈ lw_ws := ws_mem 492 (by decide +kernel) rfl
theorem ws_X7_next : Cond.selects RX7 yX7_next yX7_next ∈ lw_ws := ws_mem 497 (by decide +kernel) rfl
theorem ws_X3_clockInPlace : Cond.selects RX3 yX3_clockInPlace yX3_clockInPlace ∈ lw_ws := ws_mem 501 (by decide +kernel) rfl
theorem ws_X7_would : Cond.selects RX7 yX7_would yX7_would ∈ lw_ws := ws_mem 509 (by decide +kernel) rfl
theorem ws_X7_meets : Cond.selects RX7 yX7_meets yX7_meets ∈ lw_ws := ws_mem 516 (by decide +kernel) rfl
theorem ws_X7_longer : Cond.selects RX7 yX7_longer yX7_longer ∈ lw_ws := ws_mem 521 (by decide +kernel) rfl
theorem ws_X3_waitDueToAll : Cond.selects RX3 yX3_waitDueToAll yX3_waitDueToAll ∈ lw_ws := ws_mem 525 (by decide +kernel) rfl
theorem ws_X7_count : Cond.selects RX7 yX7_count yX7_count ∈ lw_ws := ws_mem 530 (by decide +kernel) rfl
theorem ws_X3_aboutToTell : Cond.selects RX3 yX3_aboutToTell yX3_aboutToTell ∈ lw_ws := ws_mem 534 (by decide +kernel) rfl
theorem ws_X3_greatestAge : Cond.selects RX3 yX3_greatestAge yX3_greatestAge ∈ lw_ws := ws_mem 538 (by decide +kernel) rfl
theorem ws_X7_undo : Cond.selects RX7 yX7_undo yX7_undo ∈ lw_ws := ws_mem 546 (by decide +kernel) rfl
theorem ws_X4_restore : Cond.selects RX4 yX4_restore yX4_restore ∈ lw_ws := ws_mem 550 (by decide +kernel) rfl
theorem ws_X7_type : Cond.selects RX7 yX7_type yX7_type ∈ lw_ws := ws_mem 555 (by decide +kernel) rfl
theorem ws_X6_append : Cond.selects RX6 yX6_append yX6_append ∈ lw_ws := ws_mem 559 (by decide +kernel) rfl
theorem ws_X7_clearText : Cond.selects RX7 yX7_clearText yX7_clearText ∈ lw_ws := ws_mem 564 (by decide +kernel) rfl
theorem ws_X7_fault : Cond.selects RX7 yX7_fault yX7_fault ∈ lw_ws := ws_mem 568 (by decide +kernel) rfl
theorem ws_X5_tryOut : Cond.selects RX5 yX5_tryOut yX5_tryOut ∈ lw_ws := ws_mem 572 (by decide +kernel) rfl
theorem ws_X6_signAt : Cond.selects RX6 yX6_signAt yX6_signAt ∈ lw_ws := ws_mem 581 (by decide +kernel) rfl
theorem ws_X7_play : Cond.selects RX7 yX7_play yX7_play ∈ lw_ws := ws_mem 608 (by decide +kernel) rfl
theorem ws_X8_clock : Cond.selects RX8 yX8_clock yX8_clock ∈ lw_ws := ws_mem 664 (by decide +kernel) rfl
theorem ws_X8_wind : Cond.selects RX8 yX8_wind yX8_wind ∈ lw_ws := ws_mem 704 (by decide +kernel) rfl
theorem ws_X8_tick : Cond.selects RX8 yX8_tick yX8_tick ∈ lw_ws := ws_mem 716 (by decide +kernel) rfl
theorem ws_X8_passenger : Cond.selects RX8 yX8_passenger yX8_passenger ∈ lw_ws := ws_mem 749 (by decide +kernel) rfl
theorem ws_X8_group : Cond.selects RX8 yX8_group yX8_group ∈ lw_ws := ws_mem 753 (by decide +kernel) rfl
theorem ws_X8_join : Cond.selects RX8 yX8_join yX8_join ∈ lw_ws := ws_mem 757 (by decide +kernel) rfl
theorem ws_X8_leave : Cond.selects RX8 yX8_leave yX8_leave ∈ lw_ws := ws_mem 770 (by decide +kernel) rfl
theorem ws_X8_clockOf : Cond.selects RX8 yX8_clockOf yX8_clockOf ∈ lw_ws := ws_mem 774 (by decide +kernel) rfl
theorem ws_X8_mean : Cond.selects RX8 yX8_mean yX8_mean ∈ lw_ws := ws_mem 779 (by decide +kernel) rfl
theorem ws_X8_groupOf : Cond.selects RX8 yX8_groupOf yX8_groupOf ∈ lw_ws := ws_mem 806 (by decide +kernel) rfl
theorem ws_X8_next : Cond.selects RX8 yX8_next yX8_next ∈ lw_ws := ws_mem 818 (by decide +kernel) rfl
theorem ws_X8_would : Cond.selects RX8 yX8_would yX8_would ∈ lw_ws := ws_mem 822 (by decide +kernel) rfl
theorem ws_X8_meets : Cond.selects RX8 yX8_meets yX8_meets ∈ lw_ws := ws_mem 829 (by decide +kernel) rfl
theorem ws_X8_longer : Cond.selects RX8 yX8_longer yX8_longer ∈ lw_ws := ws_mem 833 (by decide +kernel) rfl
theorem ws_X8_count : Cond.selects RX8 yX8_count yX8_count ∈ lw_ws := ws_mem 837 (by decide +kernel) rfl
theorem ws_X8_undo : Cond.selects RX8 yX8_undo yX8_undo ∈ lw_ws := ws_mem 849 (by decide +kernel) rfl
theorem ws_X8_type : Cond.selects RX8 yX8_type yX8_type ∈ lw_ws := ws_mem 853 (by decide +kernel) rfl
theorem ws_X8_clearText : Cond.selects RX8 yX8_clearText yX8_clearText ∈ lw_ws := ws_mem 857 (by decide +kernel) rfl
theorem ws_X8_fault : Cond.selects RX8 yX8_fault yX8_fault ∈ lw_ws := ws_mem 861 (by decide +kernel) rfl
theorem ws_X8_play : Cond.selects RX8 yX8_play yX8_play ∈ lw_ws := ws_mem 897 (by decide +kernel) rfl
theorem ws_X0_fillRound : Cond.selects RX0 yX0_fillRound yX0_fillRound ∈ lw_ws := ws_mem 0 (by decide +kernel) rfl
theorem ws_X3_beginGap : Cond.selects RX3 yX3_beginGap yX3_beginGap ∈ lw_ws := ws_mem 1 (by decide +kernel) rfl
theorem ws_X3_draw : Cond.selects RX3 yX3_draw yX3_draw ∈ lw_ws := ws_mem 2 (by decide +kernel) rfl
theorem ws_X7_settle : Cond.selects RX7 yX7_settle yX7_settle ∈ lw_ws := ws_mem 3 (by decide +kernel) rfl
theorem ws_X3_clocksAhead : Cond.selects RX3 yX3_clocksAhead yX3_clocksAhead ∈ lw_ws := ws_mem 4 (by decide +kernel) rfl
theorem ws_X5_readOrder : Cond.selects RX5 yX5_readOrder yX5_readOrder ∈ lw_ws := ws_mem 5 (by decide +kernel) rfl
theorem ws_X5_readNumber : Cond.selects RX5 yX5_readNumber yX5_readNumber ∈ lw_ws := ws_mem 6 (by decide +kernel) rfl
theorem ws_X5_setFault : Cond.selects RX5 yX5_setFault yX5_setFault ∈ lw_ws := ws_mem 7 (by decide +kernel) rfl
theorem ws_X5_obey : Cond.selects RX5 yX5_obey yX5_obey ∈ lw_ws := ws_mem 8 (by decide +kernel) rfl
theorem ws_X8_changes : Cond.selects RX8 yX8_changes yX8_changes ∈ lw_ws := ws_mem 9 (by decide +kernel) rfl
theorem ws_X8_sets : Cond.selects RX8 yX8_sets yX8_sets ∈ lw_ws := ws_mem 10 (by decide +kernel) rfl
theorem ws_X8_begins : Cond.selects RX8 yX8_begins yX8_begins ∈ lw_ws := ws_mem 11 (by decide +kernel) rfl
theorem ws_X8_of : Cond.selects RX8 yX8_of yX8_of ∈ lw_ws := ws_mem 12 (by decide +kernel) rfl
theorem ws_X8_places : Cond.selects RX8 yX8_places yX8_places ∈ lw_ws := ws_mem 13 (by decide +kernel) rfl
theorem ws_X8_draw : Cond.selects RX8 yX8_draw yX8_draw ∈ lw_ws := ws_mem 14 (by decide +kernel) rfl
theorem ws_X8_gapAt : Cond.selects RX8 yX8_gapAt yX8_gapAt ∈ lw_ws := ws_mem 15 (by decide +kernel) rfl
theorem ws_X8_isClock : Cond.selects RX8 yX8_isClock yX8_isClock ∈ lw_ws := ws_mem 16 (by decide +kernel) rfl
theorem ws_X8_adds : Cond.selects RX8 yX8_adds yX8_adds ∈ lw_ws := ws_mem 17 (by decide +kernel) rfl
theorem ws_X8_endsFor : Cond.selects RX8 yX8_endsFor yX8_endsFor ∈ lw_ws := ws_mem 18 (by decide +kernel) rfl
theorem ws_X8_sum : Cond.selects RX8 yX8_sum yX8_sum ∈ lw_ws := ws_mem 19 (by decide +kernel) rfl
theorem ws_X8_ends : Cond.selects RX8 yX8_ends yX8_ends ∈ lw_ws := ws_mem 20 (by decide +kernel) rfl
theorem ws_X8_rest : Cond.selects RX8 yX8_rest yX8_rest ∈ lw_ws := ws_mem 21 (by decide +kernel) rfl
theorem ws_X8_tells : Cond.selects RX8 yX8_tells yX8_tells ∈ lw_ws := ws_mem 22 (by decide +kernel) rfl
theorem ws_X8_ofGroup : Cond.selects RX8 yX8_ofGroup yX8_ofGroup ∈ lw_ws := ws_mem 23 (by decide +kernel) rfl
theorem ws_X8_ones : Cond.selects RX8 yX8_ones yX8_ones ∈ lw_ws := ws_mem 24 (by decide +kernel) rfl
theorem ws_X8_isGroup : Cond.selects RX8 yX8_isGroup yX8_isGroup ∈ lw_ws := ws_mem 25 (by decide +kernel) rfl
theorem ws_X8_isIn : Cond.selects RX8 yX8_isIn yX8_isIn ∈ lw_ws := ws_mem 26 (by decide +kernel) rfl
theorem ws_X8_lawMean : Cond.selects RX8 yX8_lawMean yX8_lawMean ∈ lw_ws := ws_mem 27 (by decide +kernel) rfl
theorem ws_X8_ofLaw : Cond.selects RX8 yX8_ofLaw yX8_ofLaw ∈ lw_ws := ws_mem 28 (by decide +kernel) rfl
theorem ws_X8_leastRest : Cond.selects RX8 yX8_leastRest yX8_leastRest ∈ lw_ws := ws_mem 29 (by decide +kernel) rfl
theorem ws_X8_sumIn : Cond.selects RX8 yX8_sumIn yX8_sumIn ∈ lw_ws := ws_mem 30 (by decide +kernel) rfl
theorem ws_X8_ending : Cond.selects RX8 yX8_ending yX8_ending ∈ lw_ws := ws_mem 31 (by decide +kernel) rfl
theorem ws_X8_oldest : Cond.selects RX8 yX8_oldest yX8_oldest ∈ lw_ws := ws_mem 32 (by decide +kernel) rfl
theorem ws_X8_plays : Cond.selects RX8 yX8_plays yX8_plays ∈ lw_ws := ws_mem 33 (by decide +kernel) rfl
theorem ws_X8_reads : Cond.selects RX8 yX8_reads yX8_reads ∈ lw_ws := ws_mem 34 (by decide +kernel) rfl
theorem ws_X8_isAt : Cond.selects RX8 yX8_isAt yX8_isAt ∈ lw_ws := ws_mem 35 (by decide +kernel) rfl
theorem ws_X8_numbered : Cond.selects RX8 yX8_numbered yX8_numbered ∈ lw_ws := ws_mem 36 (by decide +kernel) rfl
theorem ws_X8_sign : Cond.selects RX8 yX8_sign yX8_sign ∈ lw_ws := ws_mem 37 (by decide +kernel) rfl
theorem ws_X8_calls : Cond.selects RX8 yX8_calls yX8_calls ∈ lw_ws := ws_mem 38 (by decide +kernel) rfl
theorem wl_X7_108 : Cond.methodLink RX7 108 yX3_groupAt ∈ lw_ws := ws_mem 484 (by decide +kernel) rfl
theorem wl_X7_11 : Cond.methodLink RX7 11 yX3_init ∈ lw_ws := ws_mem 63 (by decide +kernel) rfl
theorem wl_X7_120 : Cond.methodLink RX7 120 yX3_leastRest ∈ lw_ws := ws_mem 485 (by decide +kernel) rfl
theorem wl_X7_128 : Cond.methodLink RX7 128 yX3_sumOver ∈ lw_ws := ws_mem 490 (by decide +kernel) rfl
theorem wl_X7_131 : Cond.methodLink RX7 131 yX3_clockInPlace ∈ lw_ws := ws_mem 499 (by decide +kernel) rfl
theorem wl_X7_134 : Cond.methodLink RX7 134 yX3_copyFrom ∈ lw_ws := ws_mem 511 (by decide +kernel) rfl
theorem wl_X7_137 : Cond.methodLink RX7 137 yX3_endTick ∈ lw_ws := ws_mem 512 (by decide +kernel) rfl
theorem wl_X7_141 : Cond.methodLink RX7 141 yX0_age ∈ lw_ws := ws_mem 513 (by decide +kernel) rfl
theorem wl_X7_151 : Cond.methodLink RX7 151 yX3_waitDueToAll ∈ lw_ws := ws_mem 523 (by decide +kernel) rfl
theorem wl_X7_167 : Cond.methodLink RX7 167 yX3_aboutToTell ∈ lw_ws := ws_mem 532 (by decide +kernel) rfl
theorem wl_X7_170 : Cond.methodLink RX7 170 yX3_greatestAge ∈ lw_ws := ws_mem 536 (by decide +kernel) rfl
theorem wl_X7_179 : Cond.methodLink RX7 179 yX4_restore ∈ lw_ws := ws_mem 548 (by decide +kernel) rfl
theorem wl_X7_184 : Cond.methodLink RX7 184 yX6_append ∈ lw_ws := ws_mem 557 (by decide +kernel) rfl
theorem wl_X7_189 : Cond.methodLink RX7 189 yX5_tryOut ∈ lw_ws := ws_mem 570 (by decide +kernel) rfl
theorem wl_X7_203 : Cond.methodLink RX7 203 yX4_keep ∈ lw_ws := ws_mem 355 (by decide +kernel) rfl
theorem wl_X7_21 : Cond.methodLink RX7 21 yX4_init ∈ lw_ws := ws_mem 195 (by decide +kernel) rfl
theorem wl_X7_212 : Cond.methodLink RX7 212 yX7_isLaw ∈ lw_ws := ws_mem 308 (by decide +kernel) rfl
theorem wl_X7_216 : Cond.methodLink RX7 216 yX7_isGap ∈ lw_ws := ws_mem 311 (by decide +kernel) rfl
theorem wl_X7_219 : Cond.methodLink RX7 219 yX7_mayFollow ∈ lw_ws := ws_mem 314 (by decide +kernel) rfl
theorem wl_X7_3 : Cond.methodLink RX7 3 objectInit ∈ lw_ws := ws_mem 58 (by decide +kernel) rfl
theorem wl_X7_35 : Cond.methodLink RX7 35 yX5_init ∈ lw_ws := ws_mem 228 (by decide +kernel) rfl
theorem wl_X7_42 : Cond.methodLink RX7 42 yX4_note ∈ lw_ws := ws_mem 278 (by decide +kernel) rfl
theorem wl_X7_46 : Cond.methodLink RX7 46 yX3_addClock ∈ lw_ws := ws_mem 301 (by decide +kernel) rfl
theorem wl_X7_50 : Cond.methodLink RX7 50 yX7_settle ∈ lw_ws := ws_mem 351 (by decide +kernel) rfl
theorem wl_X7_54 : Cond.methodLink RX7 54 yX3_windClock ∈ lw_ws := ws_mem 363 (by decide +kernel) rfl
theorem wl_X7_57 : Cond.methodLink RX7 57 yX3_endTicks ∈ lw_ws := ws_mem 375 (by decide +kernel) rfl
theorem wl_X7_60 : Cond.methodLink RX7 60 yX3_addPassenger ∈ lw_ws := ws_mem 403 (by decide +kernel) rfl
theorem wl_X7_63 : Cond.methodLink RX7 63 yX3_addGroup ∈ lw_ws := ws_mem 411 (by decide +kernel) rfl
theorem wl_X7_66 : Cond.methodLink RX7 66 yX3_joinGroup ∈ lw_ws := ws_mem 424 (by decide +kernel) rfl
theorem wl_X7_70 : Cond.methodLink RX7 70 yX3_leaveGroup ∈ lw_ws := ws_mem 445 (by decide +kernel) rfl
theorem wl_X7_73 : Cond.methodLink RX7 73 yX3_clockAt ∈ lw_ws := ws_mem 453 (by decide +kernel) rfl
theorem wl_X7_78 : Cond.methodLink RX7 78 yX0_tell ∈ lw_ws := ws_mem 455 (by decide +kernel) rfl
theorem wl_X7_89 : Cond.methodLink RX7 89 yX1_meanOf ∈ lw_ws := ws_mem 469 (by decide +kernel) rfl
theorem wl_X7_95 : Cond.methodLink RX7 95 yX7_bitsOf ∈ lw_ws := ws_mem 473 (by decide +kernel) rfl
theorem wl_X0_3 : Cond.methodLink RX0 3 objectInit ∈ lw_ws := ws_mem 75 (by decide +kernel) rfl
theorem wl_X0_47 : Cond.methodLink RX0 47 yX1_empty ∈ lw_ws := ws_mem 323 (by decide +kernel) rfl
theorem wl_X0_50 : Cond.methodLink RX0 50 yX0_fillRound ∈ lw_ws := ws_mem 327 (by decide +kernel) rfl
theorem wl_X0_53 : Cond.methodLink RX0 53 yX1_add ∈ lw_ws := ws_mem 331 (by decide +kernel) rfl
theorem wl_X0_57 : Cond.methodLink RX0 57 arraycopyName ∈ lw_ws := ws_mem 290 (by decide +kernel) rfl
theorem wl_X0_63 : Cond.methodLink RX0 63 yX1_copyFrom ∈ lw_ws := ws_mem 293 (by decide +kernel) rfl
theorem wl_X0_70 : Cond.methodLink RX0 70 yX0_age ∈ lw_ws := ws_mem 459 (by decide +kernel) rfl
theorem wl_X1_1 : Cond.methodLink RX1 1 objectInit ∈ lw_ws := ws_mem 81 (by decide +kernel) rfl
theorem wl_X2_1 : Cond.methodLink RX2 1 objectInit ∈ lw_ws := ws_mem 150 (by decide +kernel) rfl
theorem wl_X2_22 : Cond.methodLink RX2 22 yJ6_bitCount_0f7a4 ∈ lw_ws := ws_mem 392 (by decide +kernel) rfl
theorem wl_X3_100 : Cond.methodLink RX3 100 yX2_passTick ∈ lw_ws := ws_mem 388 (by decide +kernel) rfl
theorem wl_X3_102 : Cond.methodLink RX3 102 yJ6_bitCount_0f7a4 ∈ lw_ws := ws_mem 398 (by decide +kernel) rfl
theorem wl_X3_120 : Cond.methodLink RX3 120 yX2_set ∈ lw_ws := ws_mem 416 (by decide +kernel) rfl
theorem wl_X3_122 : Cond.methodLink RX3 122 yX3_groupAt ∈ lw_ws := ws_mem 428 (by decide +kernel) rfl
theorem wl_X3_127 : Cond.methodLink RX3 127 yX2_has ∈ lw_ws := ws_mem 432 (by decide +kernel) rfl
theorem wl_X3_131 : Cond.methodLink RX3 131 yX2_size ∈ lw_ws := ws_mem 437 (by decide +kernel) rfl
theorem wl_X3_138 : Cond.methodLink RX3 138 yX0_tell ∈ lw_ws := ws_mem 494 (by decide +kernel) rfl
theorem wl_X3_141 : Cond.methodLink RX3 141 yX3_clocksAhead ∈ lw_ws := ws_mem 503 (by decide +kernel) rfl
theorem wl_X3_145 : Cond.methodLink RX3 145 yX1_meanOf ∈ lw_ws := ws_mem 527 (by decide +kernel) rfl
theorem wl_X3_149 : Cond.methodLink RX3 149 yX0_age ∈ lw_ws := ws_mem 540 (by decide +kernel) rfl
theorem wl_X3_152 : Cond.methodLink RX3 152 yJ9_max_7cf53 ∈ lw_ws := ws_mem 541 (by decide +kernel) rfl
theorem wl_X3_3 : Cond.methodLink RX3 3 objectInit ∈ lw_ws := ws_mem 66 (by decide +kernel) rfl
theorem wl_X3_32 : Cond.methodLink RX3 32 yX0_copyFrom ∈ lw_ws := ws_mem 286 (by decide +kernel) rfl
theorem wl_X3_39 : Cond.methodLink RX3 39 yX2_copyFrom ∈ lw_ws := ws_mem 297 (by decide +kernel) rfl
theorem wl_X3_51 : Cond.methodLink RX3 51 yX0_set ∈ lw_ws := ws_mem 319 (by decide +kernel) rfl
theorem wl_X3_55 : Cond.methodLink RX3 55 yX3_beginGap ∈ lw_ws := ws_mem 335 (by decide +kernel) rfl
theorem wl_X3_58 : Cond.methodLink RX3 58 yX3_clockAt ∈ lw_ws := ws_mem 367 (by decide +kernel) rfl
theorem wl_X3_80 : Cond.methodLink RX3 80 yX3_draw ∈ lw_ws := ws_mem 339 (by decide +kernel) rfl
theorem wl_X3_84 : Cond.methodLink RX3 84 yX0_placeInTurn ∈ lw_ws := ws_mem 343 (by decide +kernel) rfl
theorem wl_X3_88 : Cond.methodLink RX3 88 yX0_beginAt ∈ lw_ws := ws_mem 347 (by decide +kernel) rfl
theorem wl_X3_93 : Cond.methodLink RX3 93 yX3_endTick ∈ lw_ws := ws_mem 380 (by decide +kernel) rfl
theorem wl_X3_96 : Cond.methodLink RX3 96 yX0_passTick ∈ lw_ws := ws_mem 384 (by decide +kernel) rfl
theorem wl_X4_17 : Cond.methodLink RX4 17 yX3_init ∈ lw_ws := ws_mem 201 (by decide +kernel) rfl
theorem wl_X4_22 : Cond.methodLink RX4 22 yX3_copyFrom ∈ lw_ws := ws_mem 282 (by decide +kernel) rfl
theorem wl_X4_3 : Cond.methodLink RX4 3 objectInit ∈ lw_ws := ws_mem 198 (by decide +kernel) rfl
theorem wl_X5_19 : Cond.methodLink RX5 19 yX3_copyFrom ∈ lw_ws := ws_mem 574 (by decide +kernel) rfl
theorem wl_X5_3 : Cond.methodLink RX5 3 objectInit ∈ lw_ws := ws_mem 231 (by decide +kernel) rfl
theorem wl_X5_43 : Cond.methodLink RX5 43 yX5_readOrder ∈ lw_ws := ws_mem 575 (by decide +kernel) rfl
theorem wl_X5_47 : Cond.methodLink RX5 47 yX5_setFault ∈ lw_ws := ws_mem 593 (by decide +kernel) rfl
theorem wl_X5_51 : Cond.methodLink RX5 51 yX5_obey ∈ lw_ws := ws_mem 597 (by decide +kernel) rfl
theorem wl_X5_58 : Cond.methodLink RX5 58 yX6_signAt ∈ lw_ws := ws_mem 579 (by decide +kernel) rfl
theorem wl_X5_62 : Cond.methodLink RX5 62 yX5_numbersBehind ∈ lw_ws := ws_mem 583 (by decide +kernel) rfl
theorem wl_X5_66 : Cond.methodLink RX5 66 yX5_readNumber ∈ lw_ws := ws_mem 586 (by decide +kernel) rfl
theorem wl_X5_70 : Cond.methodLink RX5 70 yX5_isDigit ∈ lw_ws := ws_mem 590 (by decide +kernel) rfl
theorem wl_X5_74 : Cond.methodLink RX5 74 yX3_addClock ∈ lw_ws := ws_mem 601 (by decide +kernel) rfl
theorem wl_X5_78 : Cond.methodLink RX5 78 yX3_endTicks ∈ lw_ws := ws_mem 602 (by decide +kernel) rfl
theorem wl_X5_82 : Cond.methodLink RX5 82 yX3_addPassenger ∈ lw_ws := ws_mem 603 (by decide +kernel) rfl
theorem wl_X5_85 : Cond.methodLink RX5 85 yX3_windClock ∈ lw_ws := ws_mem 604 (by decide +kernel) rfl
theorem wl_X5_88 : Cond.methodLink RX5 88 yX3_joinGroup ∈ lw_ws := ws_mem 605 (by decide +kernel) rfl
theorem wl_X6_3 : Cond.methodLink RX6 3 objectInit ∈ lw_ws := ws_mem 215 (by decide +kernel) rfl
theorem wl_L_12 : Cond.methodLink RL 12 yX8_init ∈ lw_ws := ws_mem 612 (by decide +kernel) rfl
theorem wl_L_13 : Cond.methodLink RL 13 yX7_clock ∈ lw_ws := ws_mem 274 (by decide +kernel) rfl
theorem wl_L_17 : Cond.methodLink RL 17 yX8_clock ∈ lw_ws := ws_mem 662 (by decide +kernel) rfl
theorem wl_L_18 : Cond.methodLink RL 18 yX7_wind ∈ lw_ws := ws_mem 359 (by decide +kernel) rfl
theorem wl_L_22 : Cond.methodLink RL 22 yX8_wind ∈ lw_ws := ws_mem 702 (by decide +kernel) rfl
theorem wl_L_23 : Cond.methodLink RL 23 yX7_tick ∈ lw_ws := ws_mem 371 (by decide +kernel) rfl
theorem wl_L_26 : Cond.methodLink RL 26 yX8_tick ∈ lw_ws := ws_mem 714 (by decide +kernel) rfl
theorem wl_L_27 : Cond.methodLink RL 27 yX7_passenger ∈ lw_ws := ws_mem 399 (by decide +kernel) rfl
theorem wl_L_30 : Cond.methodLink RL 30 yX8_passenger ∈ lw_ws := ws_mem 747 (by decide +kernel) rfl
theorem wl_L_31 : Cond.methodLink RL 31 yX7_group ∈ lw_ws := ws_mem 407 (by decide +kernel) rfl
theorem wl_L_34 : Cond.methodLink RL 34 yX8_group ∈ lw_ws := ws_mem 751 (by decide +kernel) rfl
theorem wl_L_35 : Cond.methodLink RL 35 yX7_join ∈ lw_ws := ws_mem 420 (by decide +kernel) rfl
theorem wl_L_39 : Cond.methodLink RL 39 yX8_join ∈ lw_ws := ws_mem 755 (by decide +kernel) rfl
theorem wl_L_40 : Cond.methodLink RL 40 yX7_leave ∈ lw_ws := ws_mem 441 (by decide +kernel) rfl
theorem wl_L_43 : Cond.methodLink RL 43 yX8_leave ∈ lw_ws := ws_mem 768 (by decide +kernel) rfl
theorem wl_L_44 : Cond.methodLink RL 44 yX7_clockOf ∈ lw_ws := ws_mem 449 (by decide +kernel) rfl
theorem wl_L_47 : Cond.methodLink RL 47 yX8_clockOf ∈ lw_ws := ws_mem 772 (by decide +kernel) rfl
theorem wl_L_48 : Cond.methodLink RL 48 yX7_mean ∈ lw_ws := ws_mem 464 (by decide +kernel) rfl
theorem wl_L_52 : Cond.methodLink RL 52 yX8_mean ∈ lw_ws := ws_mem 777 (by decide +kernel) rfl
theorem wl_L_53 : Cond.methodLink RL 53 yX7_groupOf ∈ lw_ws := ws_mem 480 (by decide +kernel) rfl
theorem wl_L_56 : Cond.methodLink RL 56 yX8_groupOf ∈ lw_ws := ws_mem 804 (by decide +kernel) rfl
theorem wl_L_57 : Cond.methodLink RL 57 yX7_next ∈ lw_ws := ws_mem 495 (by decide +kernel) rfl
theorem wl_L_60 : Cond.methodLink RL 60 yX8_next ∈ lw_ws := ws_mem 816 (by decide +kernel) rfl
theorem wl_L_61 : Cond.methodLink RL 61 yX7_would ∈ lw_ws := ws_mem 507 (by decide +kernel) rfl
theorem wl_L_65 : Cond.methodLink RL 65 yX8_would ∈ lw_ws := ws_mem 820 (by decide +kernel) rfl
theorem wl_L_66 : Cond.methodLink RL 66 yX7_meets ∈ lw_ws := ws_mem 514 (by decide +kernel) rfl
theorem wl_L_69 : Cond.methodLink RL 69 yX8_meets ∈ lw_ws := ws_mem 827 (by decide +kernel) rfl
theorem wl_L_70 : Cond.methodLink RL 70 yX7_longer ∈ lw_ws := ws_mem 519 (by decide +kernel) rfl
theorem wl_L_74 : Cond.methodLink RL 74 yX8_longer ∈ lw_ws := ws_mem 831 (by decide +kernel) rfl
theorem wl_L_75 : Cond.methodLink RL 75 yX7_count ∈ lw_ws := ws_mem 528 (by decide +kernel) rfl
theorem wl_L_78 : Cond.methodLink RL 78 yX8_count ∈ lw_ws := ws_mem 835 (by decide +kernel) rfl
theorem wl_L_79 : Cond.methodLink RL 79 yX7_undo ∈ lw_ws := ws_mem 544 (by decide +kernel) rfl
theorem wl_L_83 : Cond.methodLink RL 83 yX8_undo ∈ lw_ws := ws_mem 847 (by decide +kernel) rfl
theorem wl_L_84 : Cond.methodLink RL 84 yX7_type ∈ lw_ws := ws_mem 553 (by decide +kernel) rfl
theorem wl_L_87 : Cond.methodLink RL 87 yX8_type ∈ lw_ws := ws_mem 851 (by decide +kernel) rfl
theorem wl_L_88 : Cond.methodLink RL 88 yX7_clearText ∈ lw_ws := ws_mem 562 (by decide +kernel) rfl
theorem wl_L_9 : Cond.methodLink RL 9 yX7_init ∈ lw_ws := ws_mem 55 (by decide +kernel) rfl
theorem wl_L_91 : Cond.methodLink RL 91 yX8_clearText ∈ lw_ws := ws_mem 855 (by decide +kernel) rfl
theorem wl_L_92 : Cond.methodLink RL 92 yX7_fault ∈ lw_ws := ws_mem 566 (by decide +kernel) rfl
theorem wl_L_95 : Cond.methodLink RL 95 yX8_fault ∈ lw_ws := ws_mem 859 (by decide +kernel) rfl
theorem wl_L_96 : Cond.methodLink RL 96 yX7_play ∈ lw_ws := ws_mem 606 (by decide +kernel) rfl
theorem wl_L_99 : Cond.methodLink RL 99 yX8_play ∈ lw_ws := ws_mem 895 (by decide +kernel) rfl
theorem wl_X8_1 : Cond.methodLink RX8 1 objectInit ∈ lw_ws := ws_mem 615 (by decide +kernel) rfl
theorem wl_X8_101 : Cond.methodLink RX8 101 yX8_isGroup ∈ lw_ws := ws_mem 759 (by decide +kernel) rfl
theorem wl_X8_104 : Cond.methodLink RX8 104 yX8_isIn ∈ lw_ws := ws_mem 763 (by decide +kernel) rfl
theorem wl_X8_110 : Cond.methodLink RX8 110 yX8_ofLaw ∈ lw_ws := ws_mem 786 (by decide +kernel) rfl
theorem wl_X8_113 : Cond.methodLink RX8 113 yX8_meanOf ∈ lw_ws := ws_mem 790 (by decide +kernel) rfl
theorem wl_X8_119 : Cond.methodLink RX8 119 yX8_lawMean ∈ lw_ws := ws_mem 782 (by decide +kernel) rfl
theorem wl_X8_123 : Cond.methodLink RX8 123 yJxe99ae_doubleToLongBits_ccdee ∈ lw_ws := ws_mem 793 (by decide +kernel) rfl
theorem wl_X8_131 : Cond.methodLink RX8 131 yX8_leastRest ∈ lw_ws := ws_mem 808 (by decide +kernel) rfl
theorem wl_X8_134 : Cond.methodLink RX8 134 yX8_sumIn ∈ lw_ws := ws_mem 812 (by decide +kernel) rfl
theorem wl_X8_137 : Cond.methodLink RX8 137 yX8_copies ∈ lw_ws := ws_mem 824 (by decide +kernel) rfl
theorem wl_X8_141 : Cond.methodLink RX8 141 yX8_ending ∈ lw_ws := ws_mem 839 (by decide +kernel) rfl
theorem wl_X8_145 : Cond.methodLink RX8 145 yX8_oldest ∈ lw_ws := ws_mem 843 (by decide +kernel) rfl
theorem wl_X8_154 : Cond.methodLink RX8 154 yX8_isAt ∈ lw_ws := ws_mem 871 (by decide +kernel) rfl
theorem wl_X8_160 : Cond.methodLink RX8 160 yX8_numbersOf ∈ lw_ws := ws_mem 875 (by decide +kernel) rfl
theorem wl_X8_163 : Cond.methodLink RX8 163 yX8_numbered ∈ lw_ws := ws_mem 878 (by decide +kernel) rfl
theorem wl_X8_166 : Cond.methodLink RX8 166 yX8_sign ∈ lw_ws := ws_mem 882 (by decide +kernel) rfl
theorem wl_X8_169 : Cond.methodLink RX8 169 yX8_clock ∈ lw_ws := ws_mem 890 (by decide +kernel) rfl
theorem wl_X8_173 : Cond.methodLink RX8 173 yX8_tick ∈ lw_ws := ws_mem 891 (by decide +kernel) rfl
theorem wl_X8_176 : Cond.methodLink RX8 176 yX8_passenger ∈ lw_ws := ws_mem 892 (by decide +kernel) rfl
theorem wl_X8_179 : Cond.methodLink RX8 179 yX8_wind ∈ lw_ws := ws_mem 893 (by decide +kernel) rfl
theorem wl_X8_182 : Cond.methodLink RX8 182 yX8_join ∈ lw_ws := ws_mem 894 (by decide +kernel) rfl
theorem wl_X8_191 : Cond.methodLink RX8 191 yX8_reads ∈ lw_ws := ws_mem 867 (by decide +kernel) rfl
theorem wl_X8_195 : Cond.methodLink RX8 195 yX8_calls ∈ lw_ws := ws_mem 886 (by decide +kernel) rfl
theorem wl_X8_204 : Cond.methodLink RX8 204 yX8_plays ∈ lw_ws := ws_mem 863 (by decide +kernel) rfl
theorem wl_X8_36 : Cond.methodLink RX8 36 yX8_of ∈ lw_ws := ws_mem 686 (by decide +kernel) rfl
theorem wl_X8_40 : Cond.methodLink RX8 40 yX8_places ∈ lw_ws := ws_mem 690 (by decide +kernel) rfl
theorem wl_X8_44 : Cond.methodLink RX8 44 yX8_draw ∈ lw_ws := ws_mem 694 (by decide +kernel) rfl
theorem wl_X8_47 : Cond.methodLink RX8 47 yX8_sets ∈ lw_ws := ws_mem 678 (by decide +kernel) rfl
theorem wl_X8_51 : Cond.methodLink RX8 51 yX8_gapAt ∈ lw_ws := ws_mem 698 (by decide +kernel) rfl
theorem wl_X8_54 : Cond.methodLink RX8 54 yX8_adds ∈ lw_ws := ws_mem 710 (by decide +kernel) rfl
theorem wl_X8_57 : Cond.methodLink RX8 57 yX8_begins ∈ lw_ws := ws_mem 682 (by decide +kernel) rfl
theorem wl_X8_61 : Cond.methodLink RX8 61 yX8_rest ∈ lw_ws := ws_mem 731 (by decide +kernel) rfl
theorem wl_X8_64 : Cond.methodLink RX8 64 yX8_tells ∈ lw_ws := ws_mem 735 (by decide +kernel) rfl
theorem wl_X8_68 : Cond.methodLink RX8 68 yX8_ofGroup ∈ lw_ws := ws_mem 739 (by decide +kernel) rfl
theorem wl_X8_71 : Cond.methodLink RX8 71 yX8_ones ∈ lw_ws := ws_mem 743 (by decide +kernel) rfl
theorem wl_X8_74 : Cond.methodLink RX8 74 yX8_sum ∈ lw_ws := ws_mem 723 (by decide +kernel) rfl
theorem wl_X8_77 : Cond.methodLink RX8 77 yX8_ends ∈ lw_ws := ws_mem 727 (by decide +kernel) rfl
theorem wl_X8_80 : Cond.methodLink RX8 80 yX8_in ∈ lw_ws := ws_mem 669 (by decide +kernel) rfl
theorem wl_X8_84 : Cond.methodLink RX8 84 yX8_isLaw ∈ lw_ws := ws_mem 666 (by decide +kernel) rfl
theorem wl_X8_90 : Cond.methodLink RX8 90 yX8_changes ∈ lw_ws := ws_mem 674 (by decide +kernel) rfl
theorem wl_X8_93 : Cond.methodLink RX8 93 yX8_isClock ∈ lw_ws := ws_mem 706 (by decide +kernel) rfl
theorem wl_X8_98 : Cond.methodLink RX8 98 yX8_endsFor ∈ lw_ws := ws_mem 719 (by decide +kernel) rfl
theorem wl_Jxe99ae_122 : Cond.methodLink RJxe99ae 122 yJxe99ae_isNaN_b9ae7 ∈ lw_ws := ws_mem 796 (by decide +kernel) rfl
theorem wl_Jxe99ae_134 : Cond.methodLink RJxe99ae 134 ⟨"java/lang/Double", "doubleToRawLongBits", "(D)J"⟩ ∈ lw_ws := ws_mem 799 (by decide +kernel) rfl
theorem wf_X7_102 : Cond.fieldLinkNest RX7 102 RX1 "many" "I" "RenewalClocks" ∈ nestW := List.mem_of_getElem? (i := 4) rfl
theorem wf_X7_112 : Cond.fieldLinkNest RX7 112 RX2 "law" "I" "RenewalClocks" ∈ nestW := List.mem_of_getElem? (i := 19) rfl
theorem wf_X7_117 : Cond.fieldLinkNest RX7 117 RX2 "members" "I" "RenewalClocks" ∈ nestW := List.mem_of_getElem? (i := 21) rfl
theorem wf_X7_12 : Cond.fieldLink RX7 12 RX7 "hall" "LRenewalClocks$Hall;" ∈ lw_ws := ws_mem 258 (by decide +kernel) rfl
theorem wf_X7_123 : Cond.fieldLinkNest RX7 123 RX2 "told" "I" "RenewalClocks" ∈ nestW := List.mem_of_getElem? (i := 23) rfl
theorem wf_X7_125 : Cond.fieldLinkNest RX7 125 RX2 "met" "I" "RenewalClocks" ∈ nestW := List.mem_of_getElem? (i := 24) rfl
theorem wf_X7_144 : Cond.fieldLinkNest RX7 144 RX0 "rest" "I" "RenewalClocks" ∈ nestW := List.mem_of_getElem? (i := 11) rfl
theorem wf_X7_147 : Cond.fieldLinkNest RX7 147 RX0 "gap" "I" "RenewalClocks" ∈ nestW := List.mem_of_getElem? (i := 9) rfl
theorem wf_X7_155 : Cond.fieldLinkNest RX7 155 RX3 "clockCount" "I" "RenewalClocks" ∈ nestW := List.mem_of_getElem? (i := 25) rfl
theorem wf_X7_158 : Cond.fieldLinkNest RX7 158 RX3 "groupCount" "I" "RenewalClocks" ∈ nestW := List.mem_of_getElem? (i := 26) rfl
theorem wf_X7_16 : Cond.fieldLink RX7 16 RX7 "trial" "LRenewalClocks$Hall;" ∈ lw_ws := ws_mem 259 (by decide +kernel) rfl
theorem wf_X7_161 : Cond.fieldLinkNest RX7 161 RX3 "now" "I" "RenewalClocks" ∈ nestW := List.mem_of_getElem? (i := 27) rfl
theorem wf_X7_164 : Cond.fieldLinkNest RX7 164 RX3 "drawn" "I" "RenewalClocks" ∈ nestW := List.mem_of_getElem? (i := 28) rfl
theorem wf_X7_173 : Cond.fieldLinkNest RX7 173 RX4 "kept" "I" "RenewalClocks" ∈ nestW := List.mem_of_getElem? (i := 29) rfl
theorem wf_X7_176 : Cond.fieldLinkNest RX7 176 RX6 "length" "I" "RenewalClocks" ∈ nestW := List.mem_of_getElem? (i := 32) rfl
theorem wf_X7_193 : Cond.fieldLinkNest RX7 193 RX5 "reason" "I" "RenewalClocks" ∈ nestW := List.mem_of_getElem? (i := 35) rfl
theorem wf_X7_196 : Cond.fieldLinkNest RX7 196 RX5 "start" "I" "RenewalClocks" ∈ nestW := List.mem_of_getElem? (i := 33) rfl
theorem wf_X7_199 : Cond.fieldLinkNest RX7 199 RX5 "cause" "I" "RenewalClocks" ∈ nestW := List.mem_of_getElem? (i := 36) rfl
theorem wf_X7_202 : Cond.fieldLinkNest RX7 202 RX5 "many" "I" "RenewalClocks" ∈ nestW := List.mem_of_getElem? (i := 34) rfl
theorem wf_X7_22 : Cond.fieldLink RX7 22 RX7 "history" "LRenewalClocks$History;" ∈ lw_ws := ws_mem 260 (by decide +kernel) rfl
theorem wf_X7_29 : Cond.fieldLink RX7 29 RX7 "text" "LRenewalClocks$Text;" ∈ lw_ws := ws_mem 261 (by decide +kernel) rfl
theorem wf_X7_38 : Cond.fieldLink RX7 38 RX7 "orders" "LRenewalClocks$Orders;" ∈ lw_ws := ws_mem 262 (by decide +kernel) rfl
theorem wf_X7_85 : Cond.fieldLinkNest RX7 85 RX0 "round" "LRenewalClocks$Gaps;" "RenewalClocks" ∈ nestW := List.mem_of_getElem? (i := 17) rfl
theorem wf_X7_99 : Cond.fieldLinkNest RX7 99 RX0 "told" "LRenewalClocks$Gaps;" "RenewalClocks" ∈ nestW := List.mem_of_getElem? (i := 15) rfl
theorem wf_X0_18 : Cond.fieldLink RX0 18 RX0 "told" "LRenewalClocks$Gaps;" ∈ lw_ws := ws_mem 120 (by decide +kernel) rfl
theorem wf_X0_22 : Cond.fieldLink RX0 22 RX0 "round" "LRenewalClocks$Gaps;" ∈ lw_ws := ws_mem 122 (by decide +kernel) rfl
theorem wf_X0_25 : Cond.fieldLink RX0 25 RX0 "law" "I" ∈ lw_ws := ws_mem 104 (by decide +kernel) rfl
theorem wf_X0_29 : Cond.fieldLink RX0 29 RX0 "place" "I" ∈ lw_ws := ws_mem 107 (by decide +kernel) rfl
theorem wf_X0_32 : Cond.fieldLink RX0 32 RX0 "gap" "I" ∈ lw_ws := ws_mem 108 (by decide +kernel) rfl
theorem wf_X0_35 : Cond.fieldLink RX0 35 RX0 "rest" "I" ∈ lw_ws := ws_mem 111 (by decide +kernel) rfl
theorem wf_X0_38 : Cond.fieldLink RX0 38 RX0 "passengers" "I" ∈ lw_ws := ws_mem 114 (by decide +kernel) rfl
theorem wf_X0_41 : Cond.fieldLink RX0 41 RX0 "waited" "I" ∈ lw_ws := ws_mem 116 (by decide +kernel) rfl
theorem wf_X0_44 : Cond.fieldLink RX0 44 RX0 "wound" "I" ∈ lw_ws := ws_mem 118 (by decide +kernel) rfl
theorem wf_X0_67 : Cond.fieldLinkNest RX0 67 RX1 "many" "I" "RenewalClocks" ∈ nestW := List.mem_of_getElem? (i := 2) rfl
theorem wf_X0_74 : Cond.fieldLinkNest RX0 74 RX1 "sum" "I" "RenewalClocks" ∈ nestW := List.mem_of_getElem? (i := 5) rfl
theorem wf_X0_78 : Cond.fieldLinkNest RX0 78 RX1 "longest" "I" "RenewalClocks" ∈ nestW := List.mem_of_getElem? (i := 6) rfl
theorem wf_X0_9 : Cond.fieldLink RX0 9 RX0 "numbers" "[I" ∈ lw_ws := ws_mem 106 (by decide +kernel) rfl
theorem wf_X1_13 : Cond.fieldLink RX1 13 RX1 "sum" "I" ∈ lw_ws := ws_mem 86 (by decide +kernel) rfl
theorem wf_X1_16 : Cond.fieldLink RX1 16 RX1 "squares" "I" ∈ lw_ws := ws_mem 88 (by decide +kernel) rfl
theorem wf_X1_19 : Cond.fieldLink RX1 19 RX1 "waits" "I" ∈ lw_ws := ws_mem 89 (by decide +kernel) rfl
theorem wf_X1_22 : Cond.fieldLink RX1 22 RX1 "longest" "I" ∈ lw_ws := ws_mem 90 (by decide +kernel) rfl
theorem wf_X1_7 : Cond.fieldLink RX1 7 RX1 "many" "I" ∈ lw_ws := ws_mem 82 (by decide +kernel) rfl
theorem wf_X2_13 : Cond.fieldLink RX2 13 RX2 "members" "I" ∈ lw_ws := ws_mem 154 (by decide +kernel) rfl
theorem wf_X2_16 : Cond.fieldLink RX2 16 RX2 "told" "I" ∈ lw_ws := ws_mem 157 (by decide +kernel) rfl
theorem wf_X2_19 : Cond.fieldLink RX2 19 RX2 "met" "I" ∈ lw_ws := ws_mem 159 (by decide +kernel) rfl
theorem wf_X2_7 : Cond.fieldLink RX2 7 RX2 "law" "I" ∈ lw_ws := ws_mem 151 (by decide +kernel) rfl
theorem wf_X3_107 : Cond.fieldLinkNest RX3 107 RX0 "passengers" "I" "RenewalClocks" ∈ nestW := List.mem_of_getElem? (i := 12) rfl
theorem wf_X3_11 : Cond.fieldLink RX3 11 RX3 "clocks" "[LRenewalClocks$Clock;" ∈ lw_ws := ws_mem 170 (by decide +kernel) rfl
theorem wf_X3_110 : Cond.fieldLinkNest RX3 110 RX0 "waited" "I" "RenewalClocks" ∈ nestW := List.mem_of_getElem? (i := 13) rfl
theorem wf_X3_113 : Cond.fieldLinkNest RX3 113 RX0 "rest" "I" "RenewalClocks" ∈ nestW := List.mem_of_getElem? (i := 10) rfl
theorem wf_X3_126 : Cond.fieldLinkNest RX3 126 RX2 "law" "I" "RenewalClocks" ∈ nestW := List.mem_of_getElem? (i := 20) rfl
theorem wf_X3_134 : Cond.fieldLinkNest RX3 134 RX2 "members" "I" "RenewalClocks" ∈ nestW := List.mem_of_getElem? (i := 22) rfl
theorem wf_X3_19 : Cond.fieldLink RX3 19 RX3 "groups" "[LRenewalClocks$Group;" ∈ lw_ws := ws_mem 173 (by decide +kernel) rfl
theorem wf_X3_23 : Cond.fieldLink RX3 23 RX3 "drawn" "I" ∈ lw_ws := ws_mem 178 (by decide +kernel) rfl
theorem wf_X3_29 : Cond.fieldLink RX3 29 RX3 "clockCount" "I" ∈ lw_ws := ws_mem 171 (by decide +kernel) rfl
theorem wf_X3_36 : Cond.fieldLink RX3 36 RX3 "groupCount" "I" ∈ lw_ws := ws_mem 174 (by decide +kernel) rfl
theorem wf_X3_42 : Cond.fieldLink RX3 42 RX3 "now" "I" ∈ lw_ws := ws_mem 176 (by decide +kernel) rfl
theorem wf_X3_62 : Cond.fieldLinkNest RX3 62 RX0 "wound" "I" "RenewalClocks" ∈ nestW := List.mem_of_getElem? (i := 14) rfl
theorem wf_X3_65 : Cond.fieldLinkNest RX3 65 RX0 "gap" "I" "RenewalClocks" ∈ nestW := List.mem_of_getElem? (i := 8) rfl
theorem wf_X3_68 : Cond.fieldLinkNest RX3 68 RX0 "law" "I" "RenewalClocks" ∈ nestW := List.mem_of_getElem? (i := 7) rfl
theorem wf_X3_71 : Cond.fieldLinkNest RX3 71 RX0 "round" "LRenewalClocks$Gaps;" "RenewalClocks" ∈ nestW := List.mem_of_getElem? (i := 16) rfl
theorem wf_X3_75 : Cond.fieldLinkNest RX3 75 RX1 "many" "I" "RenewalClocks" ∈ nestW := List.mem_of_getElem? (i := 3) rfl
theorem wf_X4_11 : Cond.fieldLink RX4 11 RX4 "slots" "[LRenewalClocks$Hall;" ∈ lw_ws := ws_mem 202 (by decide +kernel) rfl
theorem wf_X4_18 : Cond.fieldLink RX4 18 RX4 "kept" "I" ∈ lw_ws := ws_mem 203 (by decide +kernel) rfl
theorem wf_X5_15 : Cond.fieldLink RX5 15 RX5 "text" "LRenewalClocks$Text;" ∈ lw_ws := ws_mem 232 (by decide +kernel) rfl
theorem wf_X5_25 : Cond.fieldLink RX5 25 RX5 "at" "I" ∈ lw_ws := ws_mem 236 (by decide +kernel) rfl
theorem wf_X5_29 : Cond.fieldLink RX5 29 RX5 "many" "I" ∈ lw_ws := ws_mem 237 (by decide +kernel) rfl
theorem wf_X5_32 : Cond.fieldLink RX5 32 RX5 "reason" "I" ∈ lw_ws := ws_mem 239 (by decide +kernel) rfl
theorem wf_X5_35 : Cond.fieldLinkNest RX5 35 RX6 "length" "I" "RenewalClocks" ∈ nestW := List.mem_of_getElem? (i := 31) rfl
theorem wf_X5_40 : Cond.fieldLink RX5 40 RX5 "start" "I" ∈ lw_ws := ws_mem 234 (by decide +kernel) rfl
theorem wf_X5_55 : Cond.fieldLink RX5 55 RX5 "cause" "I" ∈ lw_ws := ws_mem 241 (by decide +kernel) rfl
theorem wf_X5_9 : Cond.fieldLink RX5 9 RX5 "numbers" "[I" ∈ lw_ws := ws_mem 233 (by decide +kernel) rfl
theorem wf_X6_15 : Cond.fieldLink RX6 15 RX6 "length" "I" ∈ lw_ws := ws_mem 217 (by decide +kernel) rfl
theorem wf_X6_9 : Cond.fieldLink RX6 9 RX6 "signs" "[C" ∈ lw_ws := ws_mem 216 (by decide +kernel) rfl
theorem wf_X8_13 : Cond.fieldLink RX8 13 RX8 "past" "[I" ∈ lw_ws := ws_mem 617 (by decide +kernel) rfl
theorem wf_X8_148 : Cond.fieldLink RX8 148 RX8 "typed" "I" ∈ lw_ws := ws_mem 623 (by decide +kernel) rfl
theorem wf_X8_151 : Cond.fieldLink RX8 151 RX8 "spot" "I" ∈ lw_ws := ws_mem 624 (by decide +kernel) rfl
theorem wf_X8_157 : Cond.fieldLink RX8 157 RX8 "order" "I" ∈ lw_ws := ws_mem 629 (by decide +kernel) rfl
theorem wf_X8_16 : Cond.fieldLink RX8 16 RX8 "held" "[I" ∈ lw_ws := ws_mem 618 (by decide +kernel) rfl
theorem wf_X8_185 : Cond.fieldLink RX8 185 RX8 "from" "I" ∈ lw_ws := ws_mem 625 (by decide +kernel) rfl
theorem wf_X8_188 : Cond.fieldLink RX8 188 RX8 "orders" "I" ∈ lw_ws := ws_mem 628 (by decide +kernel) rfl
theorem wf_X8_19 : Cond.fieldLink RX8 19 RX8 "tried" "[I" ∈ lw_ws := ws_mem 619 (by decide +kernel) rfl
theorem wf_X8_198 : Cond.fieldLink RX8 198 RX8 "reason" "I" ∈ lw_ws := ws_mem 626 (by decide +kernel) rfl
theorem wf_X8_201 : Cond.fieldLink RX8 201 RX8 "cause" "I" ∈ lw_ws := ws_mem 627 (by decide +kernel) rfl
theorem wf_X8_22 : Cond.fieldLink RX8 22 RX8 "text" "[I" ∈ lw_ws := ws_mem 622 (by decide +kernel) rfl
theorem wf_X8_25 : Cond.fieldLink RX8 25 RX8 "numbers" "[I" ∈ lw_ws := ws_mem 630 (by decide +kernel) rfl
theorem wf_X8_28 : Cond.fieldLink RX8 28 RX8 "runs" "Z" ∈ lw_ws := ws_mem 621 (by decide +kernel) rfl
theorem wf_X8_32 : Cond.fieldLink RX8 32 RX8 "pasts" "I" ∈ lw_ws := ws_mem 620 (by decide +kernel) rfl
theorem wf_X8_7 : Cond.fieldLink RX8 7 RX8 "s" "[I" ∈ lw_ws := ws_mem 616 (by decide +kernel) rfl
theorem wk_X7_106 : Cond.constantLong RX7 106 (-1000004) ∈ lw_ws := ws_mem 479 (by decide +kernel) rfl
theorem wk_X7_150 : Cond.constant RX7 150 (-1000004) ∈ lw_ws := ws_mem 518 (by decide +kernel) rfl
theorem wk_X7_183 : Cond.constant RX7 183 (-1000002) ∈ lw_ws := ws_mem 552 (by decide +kernel) rfl
theorem wk_X7_188 : Cond.constant RX7 188 (-1000003) ∈ lw_ws := ws_mem 561 (by decide +kernel) rfl
theorem wk_X7_206 : Cond.constantDouble RX7 206 (4611686018427387904) ∈ lw_ws := ws_mem 476 (by decide +kernel) rfl
theorem wk_X7_208 : Cond.constantDouble RX7 208 (4841369599423283200) ∈ lw_ws := ws_mem 477 (by decide +kernel) rfl
theorem wk_X7_210 : Cond.constantLong RX7 210 (-9223372036854775808) ∈ lw_ws := ws_mem 478 (by decide +kernel) rfl
theorem wk_X7_77 : Cond.constant RX7 77 (-1000001) ∈ lw_ws := ws_mem 454 (by decide +kernel) rfl
theorem wk_X7_83 : Cond.constantLong RX7 83 (-1000001) ∈ lw_ws := ws_mem 468 (by decide +kernel) rfl
theorem wk_X0_77 : Cond.constant RX0 77 (-1000004) ∈ lw_ws := ws_mem 463 (by decide +kernel) rfl
theorem wk_X3_130 : Cond.constant RX3 130 (-1000002) ∈ lw_ws := ws_mem 436 (by decide +kernel) rfl
theorem wk_X3_137 : Cond.constant RX3 137 (-1000004) ∈ lw_ws := ws_mem 489 (by decide +kernel) rfl
theorem wk_X3_49 : Cond.constant RX3 49 (-1000001) ∈ lw_ws := ws_mem 317 (by decide +kernel) rfl
theorem wk_X3_50 : Cond.constant RX3 50 (-1000003) ∈ lw_ws := ws_mem 318 (by decide +kernel) rfl
theorem wk_X3_92 : Cond.constant RX3 92 (99999) ∈ lw_ws := ws_mem 379 (by decide +kernel) rfl
theorem wk_X8_108 : Cond.constant RX8 108 (-1000002) ∈ lw_ws := ws_mem 767 (by decide +kernel) rfl
theorem wk_X8_109 : Cond.constant RX8 109 (-1000004) ∈ lw_ws := ws_mem 776 (by decide +kernel) rfl
theorem wk_X8_117 : Cond.constantLong RX8 117 (-1000001) ∈ lw_ws := ws_mem 781 (by decide +kernel) rfl
theorem wk_X8_129 : Cond.constantLong RX8 129 (-1000004) ∈ lw_ws := ws_mem 803 (by decide +kernel) rfl
theorem wk_X8_88 : Cond.constant RX8 88 (-1000001) ∈ lw_ws := ws_mem 672 (by decide +kernel) rfl
theorem wk_X8_89 : Cond.constant RX8 89 (-1000003) ∈ lw_ws := ws_mem 673 (by decide +kernel) rfl
theorem wk_X8_97 : Cond.constant RX8 97 (99999) ∈ lw_ws := ws_mem 718 (by decide +kernel) rfl
theorem wk_Jxe99ae_137 : Cond.constantLong RJxe99ae 137 (9221120237041090560) ∈ lw_ws := ws_mem 802 (by decide +kernel) rfl
theorem wk_J6_265 : Cond.constant RJ6 265 (1431655765) ∈ lw_ws := ws_mem 395 (by decide +kernel) rfl
theorem wk_J6_266 : Cond.constant RJ6 266 (858993459) ∈ lw_ws := ws_mem 396 (by decide +kernel) rfl
theorem wk_J6_267 : Cond.constant RJ6 267 (252645135) ∈ lw_ws := ws_mem 397 (by decide +kernel) rfl
end
section
/-! ONE MEMORY: every cell of the class and of the check stands at a fixed place k < 231, its address is ad k; what it holds is M k : Nat → Int32 (references are fixed by the place, but the rows of the history). -/
abbrev Mem : Type := Nat → Nat → Int32
/-- the remainder as the machine makes it -/
def jrem (x y : Int32) : Int32 := x - x / y * y
def upd2 (M : Mem) (k j : Nat) (v : Int32) : Mem := fun a => if a = k then upd (M k) j v else M a
/-- class ids and slots; array classes; addresses; where the world begins -/
abbrev Gm : Type := va_G × (Nat → ClassId) × (Nat → Nat) × Nat
abbrev gD (g : Gm) : va_G := g.1
abbrev gC (g : Gm) : Nat → ClassId := g.2.1
abbrev ad (g : Gm) : Nat → Nat := g.2.2.1
abbrev gB (g : Gm) : Nat := g.2.2.2
abbrev gA (g : Gm) : Nat → Prop := fun q => gB g ≤ q
/-- kinds of places: 0..8 the classes as vwCl has them; 9..13 int arrays of 4, 5, 110, 440, 60; 14 the signs; 15 clocks, 16 groups, 17 slots -/
def hk0 (x : Nat) : Nat := if x = 0 then 3 else if x = 1 then 15 else if x = 2 then 16 else if x < 27 then (if (x - 3) % 4 = 0 then 0 else if (x - 3) % 4 = 1 then 9 else 1) else 2
def kd (k : Nat) : Nat := if k = 0 then 7 else if k < 63 then hk0 ((k - 1) % 31) else if k = 63 then 4 else if k = 64 then 17 else if k < 220 then hk0 ((k - 65) % 31) else
  if k = 220 then 6 else if k = 221 then 14 else if k = 222 then 5 else if k = 223 then 10 else if k = 224 then 8 else if k = 225 then 11 else if k = 226 then 12 else if k = 227 then 11 else if k = 228 then 11 else if k = 229 then 13 else if k = 230 then 10 else 99
/-- what an object's fields are: none an int, some f the cell at place f k -/
def tpl (c : Nat) : List (Option (Nat → Nat)) := match c with
  | 0 => [none, some (fun k => k + 1), none, none, none, none, none, none, some (fun k => k + 2), some (fun k => k + 3)]
  | 1 => [none, none, none, none, none]
  | 2 => [none, none, none, none]
  | 3 => [some (fun k => k + 1), none, some (fun k => k + 2), none, none, none]
  | 4 => [some (fun k => k + 1), none]
  | 5 => [some (fun _ => 220), some (fun k => k + 1), none, none, none, none, none]
  | 6 => [some (fun k => k + 1), none]
  | 7 => [some (fun _ => 1), some (fun _ => 32), some (fun _ => 63), some (fun _ => 220), some (fun _ => 222)]
  | _ => [some (fun k => k + 1), some (fun k => k + 2), some (fun k => k + 3), some (fun k => k + 4), none, none, some (fun k => k + 5), none, none, none, none, none, none, none, some (fun k => k + 6)]
def rv (g : Gm) (M : Mem) (k j : Nat) (t : Option (Nat → Nat)) : Value := match t with
  | none => .int (M k j)
  | some f => .ref (ad g (f k))
def wF (g : Gm) (M : Mem) (k : Nat) : Nat → List (Option (Nat → Nat)) → List Value
  | _, [] => []
  | j, t :: ts => rv g M k j t :: wF g M k (j + 1) ts
/-- int arrays -/
def iarr (c : Nat) : Option Nat := match c with
  | 9 => some 4
  | 10 => some 5
  | 11 => some 110
  | 12 => some 440
  | 13 => some 60
  | _ => none
def wA (g : Gm) (M : Mem) (k c : Nat) : ClassId × vp_A :=
  if c = 14 then (gC g 1, 60, .inl (M k)) else if c = 15 then (gC g 2, 6, .inr (.inr (.inr (.inr (fun j => some (ad g (k + 2 + 4 * j)))))))
  else if c = 16 then (gC g 3, 4, .inr (.inr (.inr (.inr (fun j => some (ad g (k + 25 + j)))))))
  else if c = 17 then (gC g 4, 5, .inr (.inr (.inr (.inr (fun j => some (ad g (65 + 31 * (M k j).toNatClampNeg)))))))
  else (gC g 0, (iarr c).getD 0, .inl (M k))
def wE (g : Gm) (M : Mem) (k : Nat) : va_E := if kd k < 9 then .inr (kd k, wF g M k 0 (tpl (kd k))) else .inl (wA g M k (kd k))
def wTys (g : Gm) : List (ClassId × FieldType) := [(gC g 0, .int), (gC g 1, .char), (gC g 2, .object RX0), (gC g 3, .object RX2), (gC g 4, .object RX3)]
def wWs (g : Gm) (M : Mem) : va_W := (List.range 231).map (fun k => (ad g k, wE g M k))
/-- what of the world doesn't change: addresses apart, classes and array classes, links between nest mates -/
def wOK (g : Gm) (U : State) : Prop := (∀ i j, i < 231 → j < 231 → ad g i = ad g j → i = j) ∧ (∀ k, k < 231 → gB g ≤ ad g k) ∧ va_K (gD g) vwCl (wTys g) U ∧ ∀ w ∈ nestW, va_Nw w U
def hM (g : Gm) (M : Mem) (H : Heap) : Prop := va_P (gD g) vwCl (wWs g M) H
theorem wWs_at (g : Gm) (M : Mem) {k : Nat} (hk : k < 231) : (wWs g M)[k]? = some (ad g k, wE g M k) := by simp [wWs, hk]
theorem wWs_D {g : Gm} {U : State} (h : wOK g U) (M : Mem) : va_D (gA g) (wWs g M) := by
  have at' : ∀ {k : Nat} {q : Nat × va_E}, (wWs g M)[k]? = some q → k < 231 ∧ q.1 = ad g k := by
    intro k q hq
    have hk : k < 231 := by
      have := (List.getElem?_eq_some_iff.mp hq).1
      simpa [wWs] using this
    rw [wWs_at g M hk] at hq
    exact ⟨hk, by rw [← Option.some.inj hq]⟩
  refine ⟨fun i j p q hi hj hpq => ?_, fun k q hq => ?_⟩
  · obtain ⟨a1, a2⟩ := at' hi
    obtain ⟨b1, b2⟩ := at' hj
    exact h.1 i j a1 b1 (by rw [← a2, ← b2]; exact hpq)
  · obtain ⟨a1, a2⟩ := at' hq
    show gB g ≤ q.1
    rw [a2]; exact h.2.1 k a1
theorem wWs_set (g : Gm) {M M' : Mem} {k : Nat} (hk : k < 231) {e : va_E} (h1 : wE g M' k = e) (h2 : ∀ j, j ≠ k → wE g M' j = wE g M j) : (wWs g M).set k (ad g k, e) = wWs g M' := by
  apply List.ext_getElem?
  intro i
  by_cases hi : i < 231
  · by_cases hik : i = k
    · subst hik
      rw [wWs_at g M' hi, List.getElem?_set_self (by simp [wWs]; exact hi), h1]
    · rw [List.getElem?_set_ne (fun h => hik h.symm), wWs_at g M hi, wWs_at g M' hi, h2 i hik]
  · rw [List.getElem?_eq_none (by simp [wWs]; omega), List.getElem?_eq_none (by simp [wWs]; omega)]
theorem wE_row (g : Gm) {M M' : Mem} {k : Nat} (h : M' k = M k) : wE g M' k = wE g M k := by
  have h1 : ∀ (ts : List (Option (Nat → Nat))) (j : Nat), wF g M' k j ts = wF g M k j ts := by
    intro ts
    induction ts with
    | nil => intro j; rfl
    | cons t ts ih =>
      intro j
      show rv g M' k j t :: _ = rv g M k j t :: _
      rw [ih]
      cases t <;> simp [rv, h]
  unfold wE wA
  rw [h1, h]
theorem upd2_ne (M : Mem) {k a : Nat} (j : Nat) (v : Int32) (h : a ≠ k) : upd2 M k j v a = M a := by simp [upd2, h]
theorem upd2_row (M : Mem) (k j : Nat) (v : Int32) : upd2 M k j v k = upd (M k) j v := by simp [upd2]
theorem kd_lt {k c : Nat} (h : kd k = c) (hc : c < 99) : k < 231 := by
  rcases Nat.lt_or_ge k 231 with q | q
  · exact q
  · exfalso
    have : kd k = 99 := by
      unfold kd
      rw [if_neg (by omega), if_neg (by omega), if_neg (by omega), if_neg (by omega), if_neg (by omega), if_neg (by omega), if_neg (by omega), if_neg (by omega), if_neg (by omega), if_neg (by omega), if_neg (by omega), if_neg (by omega), if_neg (by omega), if_neg (by omega), if_neg (by omega), if_neg (by omega)]
    omega
theorem wF_at (g : Gm) (M : Mem) (k : Nat) : ∀ (ts : List (Option (Nat → Nat))) (j0 j : Nat) {t : Option (Nat → Nat)}, ts[j]? = some t → (wF g M k j0 ts)[j]? = some (rv g M k (j0 + j) t) := by
  intro ts
  induction ts with
  | nil => intro j0 j t h; simp at h
  | cons a ts ih =>
    intro j0 j t h
    cases j with
    | zero =>
      simp at h
      subst h
      simp [wF]
    | succ j =>
      simp at h
      have := ih (j0 + 1) j h
      simp only [wF, List.getElem?_cons_succ]
      rw [this]
      congr 2
      omega
theorem wF_len (g : Gm) (M : Mem) (k : Nat) : ∀ (ts : List (Option (Nat → Nat))) (j0 : Nat), (wF g M k j0 ts).length = ts.length := by
  intro ts
  induction ts with
  | nil => intro j0; rfl
  | cons a ts ih => intro j0; simp [wF, ih]
theorem wF_set (g : Gm) (M : Mem) (k j : Nat) (x : Int32) : ∀ (ts : List (Option (Nat → Nat))) (j0 i : Nat), j0 + i = j → ts[i]? = some none → (wF g M k j0 ts).set i (.int x) = wF g (upd2 M k j x) k j0 ts := by
  have off : ∀ (ts : List (Option (Nat → Nat))) (j0 : Nat), j < j0 → wF g (upd2 M k j x) k j0 ts = wF g M k j0 ts := by
    intro ts
    induction ts with
    | nil => intro j0 _; rfl
    | cons t ts ih =>
      intro j0 hj
      simp only [wF]
      rw [ih (j0 + 1) (by omega)]
      congr 1
      cases t with
      | none => simp only [rv]; rw [upd2_row]; unfold upd; rw [if_neg (by omega)]
      | some f => rfl
  intro ts
  induction ts with
  | nil => intro j0 i _ h; simp at h
  | cons t ts ih =>
    intro j0 i hij h
    cases i with
    | zero =>
      simp at h
      subst h
      simp only [wF, List.set_cons_zero]
      rw [off ts (j0 + 1) (by omega)]
      congr 1
      simp only [rv]
      rw [upd2_row]
      unfold upd
      rw [if_pos (by omega)]
    | succ i =>
      simp at h
      simp only [wF, List.set_cons_succ]
      rw [ih (j0 + 1) i (by omega) h]
      congr 1
      cases t with
      | none => simp only [rv]; rw [upd2_row]; unfold upd; rw [if_neg (by omega)]
      | some f => rfl
theorem wE_obj (g : Gm) (M : Mem) {k c : Nat} (h : kd k = c) (hc : c < 9) : wE g M k = .inr (c, wF g M k 0 (tpl c)) := by
  unfold wE
  rw [h, if_pos hc]
theorem wE_arr (g : Gm) (M : Mem) {k c : Nat} (h : kd k = c) (hc : ¬ c < 9) : wE g M k = .inl (wA g M k c) := by
  unfold wE
  rw [h, if_neg hc]
theorem wE_iarr (g : Gm) (M : Mem) {k c n : Nat} (h : kd k = c) (hn : iarr c = some n) : wE g M k = .inl (gC g 0, n, .inl (M k)) := by
  have hc : c = 9 ∨ c = 10 ∨ c = 11 ∨ c = 12 ∨ c = 13 := by
    unfold iarr at hn
    split at hn <;> simp_all
  rw [wE_arr g M h (by omega)]
  unfold wA
  rw [if_neg (by omega), if_neg (by omega), if_neg (by omega), if_neg (by omega), hn]
  rfl
/-! locals, dense: at i what is known of slot i -/
def lg : List (Option Value) → Nat → Option Value
  | [], _ => none
  | a :: _, 0 => a
  | _ :: l, n + 1 => lg l n
def lst : List (Option Value) → Nat → Option Value → List (Option Value)
  | [], _, _ => []
  | _ :: l, 0, v => v :: l
  | a :: l, n + 1, v => a :: lst l n v
def lhas (ls : Array Slot) (nL : Nat) (lv : List (Option Value)) : Prop := ls.size = nL ∧ lv_wf ls ∧ ∀ i v, lg lv i = some v → ls[i]? = some (.val v)
def lok (lv : List (Option Value)) (i : Nat) : Bool := match i with
  | 0 => true
  | i + 1 => match lg lv i with
    | some w => !(w.category == 2)
    | none => true
/-- less is known -/
def lsub : List (Option Value) → List (Option Value) → Prop
  | _, [] => True
  | [], none :: r => lsub [] r
  | [], some _ :: _ => False
  | _ :: l, none :: r => lsub l r
  | a :: l, some v :: r => a = some v ∧ lsub l r
theorem lg_lst : ∀ (lv : List (Option Value)) (i j : Nat) (v : Option Value), lg (lst lv i v) j = if j = i ∧ i < lv.length then v else lg lv j := by
  intro lv
  induction lv with
  | nil => intro i j v; simp [lst, lg]
  | cons a l ih =>
    intro i j v
    cases i with
    | zero => cases j <;> simp [lst, lg]
    | succ i =>
      cases j with
      | zero => simp [lst, lg]
      | succ j => simp only [lst, lg, ih]; simp
theorem lg_lt : ∀ (lv : List (Option Value)) (i : Nat) {v : Value}, lg lv i = some v → i < lv.length := by
  intro lv
  induction lv with
  | nil => intro i v h; simp [lg] at h
  | cons a l ih =>
    intro i v h
    cases i with
    | zero => simp
    | succ i => have := ih i h; simp; omega
theorem lsub_sound : ∀ (lv r : List (Option Value)), lsub lv r → ∀ i v, lg r i = some v → lg lv i = some v := by
  intro lv
  induction lv with
  | nil =>
    intro r
    induction r with
    | nil => intro _ i v h; simp [lg] at h
    | cons b r ih =>
      intro h i v hi
      cases b with
      | none =>
        cases i with
        | zero => simp [lg] at hi
        | succ i => have := ih h i v hi; simp [lg] at this
      | some w => exact h.elim
  | cons a l ih =>
    intro r h i v hi
    cases r with
    | nil => simp [lg] at hi
    | cons b r =>
      cases b with
      | none =>
        cases i with
        | zero => simp [lg] at hi
        | succ i => exact ih r h i v hi
      | some w =>
        cases i with
        | zero => simp only [lg] at hi ⊢; rw [h.1]; exact hi
        | succ i => exact ih r h.2 i v hi
def lasc (lv : List (Option Value)) : List (Nat × Value) := (List.range lv.length).filterMap (fun i => (lg lv i).map (fun v => (i, v)))
theorem lasc_mem (lv : List (Option Value)) (q : Nat × Value) : q ∈ lasc lv ↔ lg lv q.1 = some q.2 := by
  obtain ⟨i, v⟩ := q
  simp only [lasc, List.mem_filterMap, List.mem_range, Option.map_eq_some_iff, Prod.mk.injEq]
  constructor
  · rintro ⟨a, h1, b, h2, rfl, rfl⟩; exact h2
  · intro h; exact ⟨i, lg_lt lv i h, v, h, rfl, rfl⟩
theorem lhas.asc {ls : Array Slot} {nL : Nat} {lv : List (Option Value)} (h : lhas ls nL lv) : lv_has ls nL (lasc lv) := ⟨h.1, h.2.1, fun q hq => h.2.2 _ _ ((lasc_mem lv q).mp hq)⟩
theorem lhas.of {ls : Array Slot} {nL : Nat} {l : List (Nat × Value)} {lv : List (Option Value)} (h : lv_has ls nL l) (hl : ∀ i v, lg lv i = some v → (i, v) ∈ l) : lhas ls nL lv := ⟨h.1, h.2.1, fun i v hi => h.2.2 (i, v) (hl i v hi)⟩
theorem lhas.sub {ls : Array Slot} {nL : Nat} {lv r : List (Option Value)} (h : lhas ls nL lv) (hs : lsub lv r) : lhas ls nL r := ⟨h.1, h.2.1, fun i v hi => h.2.2 i v (lsub_sound lv r hs i v hi)⟩
theorem lhas.set1 {ls : Array Slot} {nL : Nat} {lv : List (Option Value)} {i : Nat} {v : Value} (ho : lok lv i = true) (h : lv_has ls nL ((i, v) :: (lasc lv).filter (fun q => !(q.1 == i) && !(q.1 + 1 == i && q.2.category == 2)))) : lhas ls nL (lst lv i (some v)) := by
  refine lhas.of h (fun j w hj => ?_)
  rw [lg_lst] at hj
  by_cases hc : j = i ∧ i < lv.length
  · rw [if_pos hc] at hj
    cases hj
    rw [hc.1]
    exact List.mem_cons_self
  · rw [if_neg hc] at hj
    have hji : ¬ j = i := fun e => hc ⟨e, e ▸ lg_lt lv j hj⟩
    refine List.mem_cons_of_mem _ (List.mem_filter.mpr ⟨(lasc_mem lv (j, w)).mpr hj, ?_⟩)
    have h2 : ¬ (j + 1 = i ∧ w.category = 2) := by
      rintro ⟨e, hw⟩
      subst e
      simp [lok, hj, hw] at ho
    simp only [Bool.and_eq_true, Bool.not_eq_true', beq_eq_false_iff_ne, ne_eq, Bool.and_eq_false_iff]
    refine ⟨hji, ?_⟩
    by_cases hx : j + 1 = i
    · exact Or.inr (fun e => h2 ⟨hx, e⟩)
    · exact Or.inl hx
theorem lhas.set2 {ls : Array Slot} {nL : Nat} {lv : List (Option Value)} {i : Nat} {v : Value} (ho : lok lv i = true) (h : lv_has ls nL ((i, v) :: (lasc lv).filter (fun q => !(q.1 == i) && (!(q.1 == i + 1) && !(q.1 + 1 == i && q.2.category == 2))))) : lhas ls nL (lst (lst lv i (some v)) (i + 1) none) := by
  refine lhas.of h (fun j w hj => ?_)
  rw [lg_lst] at hj
  split at hj
  · cases hj
  · rename_i hj1
    rw [lg_lst] at hj
    have hlen : (lst lv i (some v)).length = lv.length := by
      have : ∀ (l : List (Option Value)) (i : Nat), (lst l i (some v)).length = l.length := by
        intro l
        induction l with
        | nil => intro i; rfl
        | cons a l ih => intro i; cases i <;> simp [lst, ih]
      exact this lv i
    rw [hlen] at hj1
    by_cases hc : j = i ∧ i < lv.length
    · rw [if_pos hc] at hj
      cases hj
      rw [hc.1]
      exact List.mem_cons_self
    · rw [if_neg hc] at hj
      have hlt := lg_lt lv j hj
      have hji : ¬ j = i := fun e => hc ⟨e, e ▸ hlt⟩
      have hji1 : ¬ j = i + 1 := fun e => hj1 ⟨e, e ▸ hlt⟩
      refine List.mem_cons_of_mem _ (List.mem_filter.mpr ⟨(lasc_mem lv (j, w)).mpr hj, ?_⟩)
      have h2 : ¬ (j + 1 = i ∧ w.category = 2) := by
        rintro ⟨e, hw⟩
        subst e
        simp [lok, hj, hw] at ho
      simp only [Bool.and_eq_true, Bool.not_eq_true', beq_eq_false_iff_ne, ne_eq, Bool.and_eq_false_iff]
      refine ⟨hji, hji1, ?_⟩
      by_cases hx : j + 1 = i
      · exact Or.inr (fun e => h2 ⟨hx, e⟩)
      · exact Or.inl hx
/-! the frame of a walk, and the judgement -/
abbrev XT : Type := Program × Launch × Env × Room × State × MethodId × Array Value × List Frame × Method × Code × Nat × Nat × (State → Prop)
def FX (X : XT) (g : Gm) (cc : ByteArray) (nL : Nat) (own : String) (rf rl : Nat) : Prop := match X with
  | (p, _, _, R, s, m, args, _, _, c, cells, slots, _) => CallFix p m c cc nL s args lw_ws own ∧ wOK g s ∧ R.frames = rf ∧ R.locals = rl ∧ cells ≤ R.cells ∧ slots ≤ R.slots ∧ gB g ≤ s.heap.size
def G (X : XT) (g : Gm) (nL : Nat) (M : Mem) (pc : Nat) (lv : List (Option Value)) (st : List Value) : Prop := match X with
  | (p, l, e, R, s, m, args, below, meth, c, cells, slots, Q) => ∀ (H : Heap) (locs : List Loc) (ls : Array Slot), hM g M H → va_S (gA g) s.heap H locs → lhas ls nL lv → W p l e R s m args below meth c H locs cells slots Q (F0 m pc ls st)
section GROWS
variable {X : XT} {g : Gm} {cc : ByteArray} {nL : Nat} {own : String} {rf rl : Nat} {M : Mem} {pc : Nat} {lv : List (Option Value)} {st : List Value}
theorem G.sub (r : List (Option Value)) (hs : lsub lv r) (k : G X g nL M pc r st) : G X g nL M pc lv st := by
  obtain ⟨p, l, e, R, s, m, args, below, meth, c, cells, slots, Q⟩ := X
  intro H locs ls hP hS hL
  exact k H locs ls hP hS (hL.sub hs)
theorem G.eq {pc' : Nat} (h : pc' = pc) (k : G X g nL M pc lv st) : G X g nL M pc' lv st := h ▸ k
theorem G.mem {M' : Mem} (h : M = M') (k : G X g nL M' pc lv st) : G X g nL M pc lv st := h ▸ k

theorem g_iconst (F : FX X g cc nL own rf rl) {n : Int} {v : Int32} (hd : decode cc pc = .ok (.iconst n, 1)) (hv : Int32.ofInt n = v) (k : G X g nL M (pc + 1) lv (.int v :: st)) : G X g nL M pc lv st := by
  obtain ⟨p, l, e, R, s, m, args, below, meth, c, cells, slots, Q⟩ := X
  obtain ⟨⟨hx, hb, hml, hown, hts⟩, hW, hrf, hrl, hcl, hsl, hgb⟩ := F
  intro H locs ls hP hS hL
  exact lv_iconst hx hb hd hv (k H locs ls hP hS hL)
theorem g_bipush (F : FX X g cc nL own rf rl) {n : Int} {v : Int32} (hd : decode cc pc = .ok (.bipush n, 2)) (hv : (Int8.ofInt n).toInt32 = v) (k : G X g nL M (pc + 2) lv (.int v :: st)) : G X g nL M pc lv st := by
  obtain ⟨p, l, e, R, s, m, args, below, meth, c, cells, slots, Q⟩ := X
  obtain ⟨⟨hx, hb, hml, hown, hts⟩, hW, hrf, hrl, hcl, hsl, hgb⟩ := F
  intro H locs ls hP hS hL
  exact lv_bipush hx hb hd hv (k H locs ls hP hS hL)
theorem g_sipush (F : FX X g cc nL own rf rl) {n : Int} {v : Int32} (hd : decode cc pc = .ok (.sipush n, 3)) (hv : (Int16.ofInt n).toInt32 = v) (k : G X g nL M (pc + 3) lv (.int v :: st)) : G X g nL M pc lv st := by
  obtain ⟨p, l, e, R, s, m, args, below, meth, c, cells, slots, Q⟩ := X
  obtain ⟨⟨hx, hb, hml, hown, hts⟩, hW, hrf, hrl, hcl, hsl, hgb⟩ := F
  intro H locs ls hP hS hL
  exact lv_sipush hx hb hd hv (k H locs ls hP hS hL)
theorem g_lconst (F : FX X g cc nL own rf rl) {n : Fin 2} {v : Int64} (hd : decode cc pc = .ok (.lconst n, 1)) (hv : Int64.ofNat (n : Nat) = v) (k : G X g nL M (pc + 1) lv (.long v :: st)) : G X g nL M pc lv st := by
  obtain ⟨p, l, e, R, s, m, args, below, meth, c, cells, slots, Q⟩ := X
  obtain ⟨⟨hx, hb, hml, hown, hts⟩, hW, hrf, hrl, hcl, hsl, hgb⟩ := F
  intro H locs ls hP hS hL
  exact lv_lconst hx hb hd hv (k H locs ls hP hS hL)
theorem g_dconst0 (F : FX X g cc nL own rf rl) (hd : decode cc pc = .ok (.dconst 0, 1)) (k : G X g nL M (pc + 1) lv (.double FP.dconst0 :: st)) : G X g nL M pc lv st := by
  obtain ⟨p, l, e, R, s, m, args, below, meth, c, cells, slots, Q⟩ := X
  obtain ⟨⟨hx, hb, hml, hown, hts⟩, hW, hrf, hrl, hcl, hsl, hgb⟩ := F
  intro H locs ls hP hS hL
  exact lv_dconst0 hx hb hd (k H locs ls hP hS hL)
theorem g_dconst1 (F : FX X g cc nL own rf rl) (hd : decode cc pc = .ok (.dconst 1, 1)) (k : G X g nL M (pc + 1) lv (.double FP.dconst1 :: st)) : G X g nL M pc lv st := by
  obtain ⟨p, l, e, R, s, m, args, below, meth, c, cells, slots, Q⟩ := X
  obtain ⟨⟨hx, hb, hml, hown, hts⟩, hW, hrf, hrl, hcl, hsl, hgb⟩ := F
  intro H locs ls hP hS hL
  exact lv_dconst1 hx hb hd (k H locs ls hP hS hL)
theorem g_ldc (F : FX X g cc nL own rf rl) {i : Nat} {v : Int32} (hw : Cond.constant own i v ∈ lw_ws) (hd : decode cc pc = .ok (.ldc i, 2)) (k : G X g nL M (pc + 2) lv (.int v :: st)) : G X g nL M pc lv st := by
  obtain ⟨p, l, e, R, s, m, args, below, meth, c, cells, slots, Q⟩ := X
  obtain ⟨⟨hx, hb, hml, hown, hts⟩, hW, hrf, hrl, hcl, hsl, hgb⟩ := F
  intro H locs ls hP hS hL
  exact lv_ldc hx hb hown (hts _ hw) hd (k H locs ls hP hS hL)
theorem g_ldcw (F : FX X g cc nL own rf rl) {i : Nat} {v : Int32} (hw : Cond.constant own i v ∈ lw_ws) (hd : decode cc pc = .ok (.ldc_w i, 3)) (k : G X g nL M (pc + 3) lv (.int v :: st)) : G X g nL M pc lv st := by
  obtain ⟨p, l, e, R, s, m, args, below, meth, c, cells, slots, Q⟩ := X
  obtain ⟨⟨hx, hb, hml, hown, hts⟩, hW, hrf, hrl, hcl, hsl, hgb⟩ := F
  intro H locs ls hP hS hL
  exact lv_ldcw hx hb hown (hts _ hw) hd (k H locs ls hP hS hL)
theorem g_ldc2 (F : FX X g cc nL own rf rl) {i : Nat} {v : Int64} (hw : Cond.constantLong own i v ∈ lw_ws) (hd : decode cc pc = .ok (.ldc2_w i, 3)) (k : G X g nL M (pc + 3) lv (.long v :: st)) : G X g nL M pc lv st := by
  obtain ⟨p, l, e, R, s, m, args, below, meth, c, cells, slots, Q⟩ := X
  obtain ⟨⟨hx, hb, hml, hown, hts⟩, hW, hrf, hrl, hcl, hsl, hgb⟩ := F
  intro H locs ls hP hS hL
  exact lv_ldc2 hx hb hown (hts _ hw) hd (k H locs ls hP hS hL)
theorem g_ldc2d (F : FX X g cc nL own rf rl) {i : Nat} {v : UInt64} (hw : Cond.constantDouble own i v ∈ lw_ws) (hd : decode cc pc = .ok (.ldc2_w i, 3)) (k : G X g nL M (pc + 3) lv (.double v :: st)) : G X g nL M pc lv st := by
  obtain ⟨p, l, e, R, s, m, args, below, meth, c, cells, slots, Q⟩ := X
  obtain ⟨⟨hx, hb, hml, hown, hts⟩, hW, hrf, hrl, hcl, hsl, hgb⟩ := F
  intro H locs ls hP hS hL
  exact lv_ldc2d hx hb hown (hts _ hw) hd (k H locs ls hP hS hL)
theorem g_null (F : FX X g cc nL own rf rl) (hd : decode cc pc = .ok (.aconst_null, 1)) (k : G X g nL M (pc + 1) lv (.null :: st)) : G X g nL M pc lv st := by
  obtain ⟨p, l, e, R, s, m, args, below, meth, c, cells, slots, Q⟩ := X
  obtain ⟨⟨hx, hb, hml, hown, hts⟩, hW, hrf, hrl, hcl, hsl, hgb⟩ := F
  intro H locs ls hP hS hL
  exact lv_null hx hb hd (k H locs ls hP hS hL)
theorem g_iload_n (F : FX X g cc nL own rf rl) {i : Fin 4} {x : Int32} (hd : decode cc pc = .ok (.iload_n i, 1)) (hl : lg lv (i : Nat) = some (.int x)) (k : G X g nL M (pc + 1) lv (.int x :: st)) : G X g nL M pc lv st := by
  obtain ⟨p, l, e, R, s, m, args, below, meth, c, cells, slots, Q⟩ := X
  obtain ⟨⟨hx, hb, hml, hown, hts⟩, hW, hrf, hrl, hcl, hsl, hgb⟩ := F
  intro H locs ls hP hS hL
  exact lv_iload_n hx hb hd rfl (hL.2.2 _ _ hl) (k H locs ls hP hS hL)
theorem g_iload (F : FX X g cc nL own rf rl) {i : Nat} {x : Int32} (hd : decode cc pc = .ok (.iload i, 2)) (hl : lg lv i = some (.int x)) (k : G X g nL M (pc + 2) lv (.int x :: st)) : G X g nL M pc lv st := by
  obtain ⟨p, l, e, R, s, m, args, below, meth, c, cells, slots, Q⟩ := X
  obtain ⟨⟨hx, hb, hml, hown, hts⟩, hW, hrf, hrl, hcl, hsl, hgb⟩ := F
  intro H locs ls hP hS hL
  exact lv_iload hx hb hd (hL.2.2 _ _ hl) (k H locs ls hP hS hL)
theorem g_lload (F : FX X g cc nL own rf rl) {i : Nat} {x : Int64} (hd : decode cc pc = .ok (.lload i, 2)) (hl : lg lv i = some (.long x)) (k : G X g nL M (pc + 2) lv (.long x :: st)) : G X g nL M pc lv st := by
  obtain ⟨p, l, e, R, s, m, args, below, meth, c, cells, slots, Q⟩ := X
  obtain ⟨⟨hx, hb, hml, hown, hts⟩, hW, hrf, hrl, hcl, hsl, hgb⟩ := F
  intro H locs ls hP hS hL
  exact lv_lload hx hb hd (hL.2.2 _ _ hl) (k H locs ls hP hS hL)
theorem g_dload_n (F : FX X g cc nL own rf rl) {i : Fin 4} {x : UInt64} (hd : decode cc pc = .ok (.dload_n i, 1)) (hl : lg lv (i : Nat) = some (.double x)) (k : G X g nL M (pc + 1) lv (.double x :: st)) : G X g nL M pc lv st := by
  obtain ⟨p, l, e, R, s, m, args, below, meth, c, cells, slots, Q⟩ := X
  obtain ⟨⟨hx, hb, hml, hown, hts⟩, hW, hrf, hrl, hcl, hsl, hgb⟩ := F
  intro H locs ls hP hS hL
  exact lv_dload_n hx hb hd rfl (hL.2.2 _ _ hl) (k H locs ls hP hS hL)
theorem g_aload_n (F : FX X g cc nL own rf rl) {i : Fin 4} {x : Nat} (hd : decode cc pc = .ok (.aload_n i, 1)) (hl : lg lv (i : Nat) = some (.ref x)) (k : G X g nL M (pc + 1) lv (.ref x :: st)) : G X g nL M pc lv st := by
  obtain ⟨p, l, e, R, s, m, args, below, meth, c, cells, slots, Q⟩ := X
  obtain ⟨⟨hx, hb, hml, hown, hts⟩, hW, hrf, hrl, hcl, hsl, hgb⟩ := F
  intro H locs ls hP hS hL
  exact lv_aload_n hx hb hd rfl (hL.2.2 _ _ hl) (k H locs ls hP hS hL)
theorem g_aload (F : FX X g cc nL own rf rl) {i : Nat} {x : Nat} (hd : decode cc pc = .ok (.aload i, 2)) (hl : lg lv i = some (.ref x)) (k : G X g nL M (pc + 2) lv (.ref x :: st)) : G X g nL M pc lv st := by
  obtain ⟨p, l, e, R, s, m, args, below, meth, c, cells, slots, Q⟩ := X
  obtain ⟨⟨hx, hb, hml, hown, hts⟩, hW, hrf, hrl, hcl, hsl, hgb⟩ := F
  intro H locs ls hP hS hL
  exact lv_aload hx hb hd (hL.2.2 _ _ hl) (k H locs ls hP hS hL)
theorem g_aload_nN (F : FX X g cc nL own rf rl) {i : Fin 4} (hd : decode cc pc = .ok (.aload_n i, 1)) (hl : lg lv (i : Nat) = some .null) (k : G X g nL M (pc + 1) lv (.null :: st)) : G X g nL M pc lv st := by
  obtain ⟨p, l, e, R, s, m, args, below, meth, c, cells, slots, Q⟩ := X
  obtain ⟨⟨hx, hb, hml, hown, hts⟩, hW, hrf, hrl, hcl, hsl, hgb⟩ := F
  intro H locs ls hP hS hL
  exact lv_aload_nN hx hb hd rfl (hL.2.2 _ _ hl) (k H locs ls hP hS hL)
theorem g_aloadN (F : FX X g cc nL own rf rl) {i : Nat} (hd : decode cc pc = .ok (.aload i, 2)) (hl : lg lv i = some .null) (k : G X g nL M (pc + 2) lv (.null :: st)) : G X g nL M pc lv st := by
  obtain ⟨p, l, e, R, s, m, args, below, meth, c, cells, slots, Q⟩ := X
  obtain ⟨⟨hx, hb, hml, hown, hts⟩, hW, hrf, hrl, hcl, hsl, hgb⟩ := F
  intro H locs ls hP hS hL
  exact lv_aloadN hx hb hd (hL.2.2 _ _ hl) (k H locs ls hP hS hL)
theorem g_istore_n (F : FX X g cc nL own rf rl) {i : Fin 4} {x : Int32} (hd : decode cc pc = .ok (.istore_n i, 1)) (hn : (i : Nat) < nL) (ho : lok lv (i : Nat) = true) (k : G X g nL M (pc + 1) (lst lv (i : Nat) (some (.int x))) st) : G X g nL M pc lv (.int x :: st) := by
  obtain ⟨p, l, e, R, s, m, args, below, meth, c, cells, slots, Q⟩ := X
  obtain ⟨⟨hx, hb, hml, hown, hts⟩, hW, hrf, hrl, hcl, hsl, hgb⟩ := F
  intro H locs ls hP hS hL
  exact lv_istore_n hx hb hd rfl hL.asc hn rfl (fun ls h => k H locs ls hP hS (lhas.set1 ho h))
theorem g_istore (F : FX X g cc nL own rf rl) {i : Nat} {x : Int32} (hd : decode cc pc = .ok (.istore i, 2)) (hn : i < nL) (ho : lok lv i = true) (k : G X g nL M (pc + 2) (lst lv i (some (.int x))) st) : G X g nL M pc lv (.int x :: st) := by
  obtain ⟨p, l, e, R, s, m, args, below, meth, c, cells, slots, Q⟩ := X
  obtain ⟨⟨hx, hb, hml, hown, hts⟩, hW, hrf, hrl, hcl, hsl, hgb⟩ := F
  intro H locs ls hP hS hL
  exact lv_istore hx hb hd hL.asc hn rfl (fun ls h => k H locs ls hP hS (lhas.set1 ho h))
theorem g_astore_n (F : FX X g cc nL own rf rl) {i : Fin 4} {x : Nat} (hd : decode cc pc = .ok (.astore_n i, 1)) (hn : (i : Nat) < nL) (ho : lok lv (i : Nat) = true) (k : G X g nL M (pc + 1) (lst lv (i : Nat) (some (.ref x))) st) : G X g nL M pc lv (.ref x :: st) := by
  obtain ⟨p, l, e, R, s, m, args, below, meth, c, cells, slots, Q⟩ := X
  obtain ⟨⟨hx, hb, hml, hown, hts⟩, hW, hrf, hrl, hcl, hsl, hgb⟩ := F
  intro H locs ls hP hS hL
  exact lv_astore_n hx hb hd rfl hL.asc hn rfl (fun ls h => k H locs ls hP hS (lhas.set1 ho h))
theorem g_astore (F : FX X g cc nL own rf rl) {i : Nat} {x : Nat} (hd : decode cc pc = .ok (.astore i, 2)) (hn : i < nL) (ho : lok lv i = true) (k : G X g nL M (pc + 2) (lst lv i (some (.ref x))) st) : G X g nL M pc lv (.ref x :: st) := by
  obtain ⟨p, l, e, R, s, m, args, below, meth, c, cells, slots, Q⟩ := X
  obtain ⟨⟨hx, hb, hml, hown, hts⟩, hW, hrf, hrl, hcl, hsl, hgb⟩ := F
  intro H locs ls hP hS hL
  exact lv_astore hx hb hd hL.asc hn rfl (fun ls h => k H locs ls hP hS (lhas.set1 ho h))
theorem g_lstore (F : FX X g cc nL own rf rl) {i : Nat} {x : Int64} (hd : decode cc pc = .ok (.lstore i, 2)) (hn : i + 1 < nL) (ho : lok lv i = true) (k : G X g nL M (pc + 2) (lst (lst lv i (some (.long x))) (i + 1) none) st) : G X g nL M pc lv (.long x :: st) := by
  obtain ⟨p, l, e, R, s, m, args, below, meth, c, cells, slots, Q⟩ := X
  obtain ⟨⟨hx, hb, hml, hown, hts⟩, hW, hrf, hrl, hcl, hsl, hgb⟩ := F
  intro H locs ls hP hS hL
  exact lv_lstore hx hb hd hL.asc hn rfl (fun ls h => k H locs ls hP hS (lhas.set2 ho h))
theorem g_dstore_n (F : FX X g cc nL own rf rl) {i : Fin 4} {x : UInt64} (hd : decode cc pc = .ok (.dstore_n i, 1)) (hn : (i : Nat) + 1 < nL) (ho : lok lv (i : Nat) = true) (k : G X g nL M (pc + 1) (lst (lst lv (i : Nat) (some (.double x))) ((i : Nat) + 1) none) st) : G X g nL M pc lv (.double x :: st) := by
  obtain ⟨p, l, e, R, s, m, args, below, meth, c, cells, slots, Q⟩ := X
  obtain ⟨⟨hx, hb, hml, hown, hts⟩, hW, hrf, hrl, hcl, hsl, hgb⟩ := F
  intro H locs ls hP hS hL
  exact lv_dstore_n hx hb hd rfl hL.asc hn rfl (fun ls h => k H locs ls hP hS (lhas.set2 ho h))
theorem g_dstore (F : FX X g cc nL own rf rl) {i : Nat} {x : UInt64} (hd : decode cc pc = .ok (.dstore i, 2)) (hn : i + 1 < nL) (ho : lok lv i = true) (k : G X g nL M (pc + 2) (lst (lst lv i (some (.double x))) (i + 1) none) st) : G X g nL M pc lv (.double x :: st) := by
  obtain ⟨p, l, e, R, s, m, args, below, meth, c, cells, slots, Q⟩ := X
  obtain ⟨⟨hx, hb, hml, hown, hts⟩, hW, hrf, hrl, hcl, hsl, hgb⟩ := F
  intro H locs ls hP hS hL
  exact lv_dstore hx hb hd hL.asc hn rfl (fun ls h => k H locs ls hP hS (lhas.set2 ho h))
theorem g_astore_nN (F : FX X g cc nL own rf rl) {i : Fin 4} (hd : decode cc pc = .ok (.astore_n i, 1)) (hn : (i : Nat) < nL) (ho : lok lv (i : Nat) = true) (k : G X g nL M (pc + 1) (lst lv (i : Nat) (some .null)) st) : G X g nL M pc lv (.null :: st) := by
  obtain ⟨p, l, e, R, s, m, args, below, meth, c, cells, slots, Q⟩ := X
  obtain ⟨⟨hx, hb, hml, hown, hts⟩, hW, hrf, hrl, hcl, hsl, hgb⟩ := F
  intro H locs ls hP hS hL
  exact lv_astore_nN hx hb hd rfl hL.asc hn rfl (fun ls h => k H locs ls hP hS (lhas.set1 ho h))
theorem g_astoreN (F : FX X g cc nL own rf rl) {i : Nat} (hd : decode cc pc = .ok (.astore i, 2)) (hn : i < nL) (ho : lok lv i = true) (k : G X g nL M (pc + 2) (lst lv i (some .null)) st) : G X g nL M pc lv (.null :: st) := by
  obtain ⟨p, l, e, R, s, m, args, below, meth, c, cells, slots, Q⟩ := X
  obtain ⟨⟨hx, hb, hml, hown, hts⟩, hW, hrf, hrl, hcl, hsl, hgb⟩ := F
  intro H locs ls hP hS hL
  exact lv_astoreN hx hb hd hL.asc hn rfl (fun ls h => k H locs ls hP hS (lhas.set1 ho h))
theorem g_iinc (F : FX X g cc nL own rf rl) {i : Nat} {n : Int} {x v : Int32} (hd : decode cc pc = .ok (.iinc i n, 3)) (hl : lg lv i = some (.int x)) (hv : x + Int32.ofInt n = v) (hn : i < nL) (ho : lok lv i = true) (k : G X g nL M (pc + 3) (lst lv i (some (.int v))) st) : G X g nL M pc lv st := by
  obtain ⟨p, l, e, R, s, m, args, below, meth, c, cells, slots, Q⟩ := X
  obtain ⟨⟨hx, hb, hml, hown, hts⟩, hW, hrf, hrl, hcl, hsl, hgb⟩ := F
  intro H locs ls hP hS hL
  obtain ⟨q, hq⟩ := List.getElem?_of_mem ((lasc_mem lv (i, .int x)).mpr hl)
  exact lv_iinc hx hb hd hL.asc hq hv hn rfl (fun ls h => k H locs ls hP hS (lhas.set1 ho h))
theorem g_iadd (F : FX X g cc nL own rf rl) {x y : Int32} (hd : decode cc pc = .ok (.iadd, 1)) (k : G X g nL M (pc + 1) lv (.int (x + y) :: st)) : G X g nL M pc lv (.int y :: .int x :: st) := by
  obtain ⟨p, l, e, R, s, m, args, below, meth, c, cells, slots, Q⟩ := X
  obtain ⟨⟨hx, hb, hml, hown, hts⟩, hW, hrf, hrl, hcl, hsl, hgb⟩ := F
  intro H locs ls hP hS hL
  exact lv_iadd hx hb hd (k H locs ls hP hS hL)
theorem g_isub (F : FX X g cc nL own rf rl) {x y : Int32} (hd : decode cc pc = .ok (.isub, 1)) (k : G X g nL M (pc + 1) lv (.int (x - y) :: st)) : G X g nL M pc lv (.int y :: .int x :: st) := by
  obtain ⟨p, l, e, R, s, m, args, below, meth, c, cells, slots, Q⟩ := X
  obtain ⟨⟨hx, hb, hml, hown, hts⟩, hW, hrf, hrl, hcl, hsl, hgb⟩ := F
  intro H locs ls hP hS hL
  exact lv_isub hx hb hd (k H locs ls hP hS hL)
theorem g_imul (F : FX X g cc nL own rf rl) {x y : Int32} (hd : decode cc pc = .ok (.imul, 1)) (k : G X g nL M (pc + 1) lv (.int (x * y) :: st)) : G X g nL M pc lv (.int y :: .int x :: st) := by
  obtain ⟨p, l, e, R, s, m, args, below, meth, c, cells, slots, Q⟩ := X
  obtain ⟨⟨hx, hb, hml, hown, hts⟩, hW, hrf, hrl, hcl, hsl, hgb⟩ := F
  intro H locs ls hP hS hL
  exact lv_imul hx hb hd (k H locs ls hP hS hL)
theorem g_iand (F : FX X g cc nL own rf rl) {x y : Int32} (hd : decode cc pc = .ok (.iand, 1)) (k : G X g nL M (pc + 1) lv (.int (x &&& y) :: st)) : G X g nL M pc lv (.int y :: .int x :: st) := by
  obtain ⟨p, l, e, R, s, m, args, below, meth, c, cells, slots, Q⟩ := X
  obtain ⟨⟨hx, hb, hml, hown, hts⟩, hW, hrf, hrl, hcl, hsl, hgb⟩ := F
  intro H locs ls hP hS hL
  exact lv_iand hx hb hd (k H locs ls hP hS hL)
theorem g_ior (F : FX X g cc nL own rf rl) {x y : Int32} (hd : decode cc pc = .ok (.ior, 1)) (k : G X g nL M (pc + 1) lv (.int (x ||| y) :: st)) : G X g nL M pc lv (.int y :: .int x :: st) := by
  obtain ⟨p, l, e, R, s, m, args, below, meth, c, cells, slots, Q⟩ := X
  obtain ⟨⟨hx, hb, hml, hown, hts⟩, hW, hrf, hrl, hcl, hsl, hgb⟩ := F
  intro H locs ls hP hS hL
  exact lv_ior hx hb hd (k H locs ls hP hS hL)
theorem g_ixor (F : FX X g cc nL own rf rl) {x y : Int32} (hd : decode cc pc = .ok (.ixor, 1)) (k : G X g nL M (pc + 1) lv (.int (x ^^^ y) :: st)) : G X g nL M pc lv (.int y :: .int x :: st) := by
  obtain ⟨p, l, e, R, s, m, args, below, meth, c, cells, slots, Q⟩ := X
  obtain ⟨⟨hx, hb, hml, hown, hts⟩, hW, hrf, hrl, hcl, hsl, hgb⟩ := F
  intro H locs ls hP hS hL
  exact lv_ixor hx hb hd (k H locs ls hP hS hL)
theorem g_idiv (F : FX X g cc nL own rf rl) {x y : Int32} (hne : ¬ y = 0) (hd : decode cc pc = .ok (.idiv, 1)) (k : G X g nL M (pc + 1) lv (.int (x / y) :: st)) : G X g nL M pc lv (.int y :: .int x :: st) := by
  obtain ⟨p, l, e, R, s, m, args, below, meth, c, cells, slots, Q⟩ := X
  obtain ⟨⟨hx, hb, hml, hown, hts⟩, hW, hrf, hrl, hcl, hsl, hgb⟩ := F
  intro H locs ls hP hS hL
  exact lv_idiv hx hb hd hne (k H locs ls hP hS hL)
theorem g_irem (F : FX X g cc nL own rf rl) {x y : Int32} (hne : ¬ y = 0) (hd : decode cc pc = .ok (.irem, 1)) (k : G X g nL M (pc + 1) lv (.int (jrem x y) :: st)) : G X g nL M pc lv (.int y :: .int x :: st) := by
  obtain ⟨p, l, e, R, s, m, args, below, meth, c, cells, slots, Q⟩ := X
  obtain ⟨⟨hx, hb, hml, hown, hts⟩, hW, hrf, hrl, hcl, hsl, hgb⟩ := F
  intro H locs ls hP hS hL
  exact lv_irem hx hb hd hne (k H locs ls hP hS hL)
theorem g_ineg (F : FX X g cc nL own rf rl) {x : Int32} (hd : decode cc pc = .ok (.ineg, 1)) (k : G X g nL M (pc + 1) lv (.int (-x) :: st)) : G X g nL M pc lv (.int x :: st) := by
  obtain ⟨p, l, e, R, s, m, args, below, meth, c, cells, slots, Q⟩ := X
  obtain ⟨⟨hx, hb, hml, hown, hts⟩, hW, hrf, hrl, hcl, hsl, hgb⟩ := F
  intro H locs ls hP hS hL
  exact lv_ineg hx hb hd (k H locs ls hP hS hL)
theorem g_ishl (F : FX X g cc nL own rf rl) {x y : Int32} (hd : decode cc pc = .ok (.ishl, 1)) (k : G X g nL M (pc + 1) lv (.int (x <<< (y &&& 31)) :: st)) : G X g nL M pc lv (.int y :: .int x :: st) := by
  obtain ⟨p, l, e, R, s, m, args, below, meth, c, cells, slots, Q⟩ := X
  obtain ⟨⟨hx, hb, hml, hown, hts⟩, hW, hrf, hrl, hcl, hsl, hgb⟩ := F
  intro H locs ls hP hS hL
  exact lv_ishl hx hb hd (k H locs ls hP hS hL)
theorem g_ishr (F : FX X g cc nL own rf rl) {x y : Int32} (hd : decode cc pc = .ok (.ishr, 1)) (k : G X g nL M (pc + 1) lv (.int (x >>> (y &&& 31)) :: st)) : G X g nL M pc lv (.int y :: .int x :: st) := by
  obtain ⟨p, l, e, R, s, m, args, below, meth, c, cells, slots, Q⟩ := X
  obtain ⟨⟨hx, hb, hml, hown, hts⟩, hW, hrf, hrl, hcl, hsl, hgb⟩ := F
  intro H locs ls hP hS hL
  exact lv_ishr hx hb hd (k H locs ls hP hS hL)
theorem g_iushr (F : FX X g cc nL own rf rl) {x y v : Int32} (hd : decode cc pc = .ok (.iushr, 1)) (hv : (x.toUInt32 >>> (y.toUInt32 &&& Int32.toUInt32 31)).toInt32 = v) (k : G X g nL M (pc + 1) lv (.int v :: st)) : G X g nL M pc lv (.int y :: .int x :: st) := by
  obtain ⟨p, l, e, R, s, m, args, below, meth, c, cells, slots, Q⟩ := X
  obtain ⟨⟨hx, hb, hml, hown, hts⟩, hW, hrf, hrl, hcl, hsl, hgb⟩ := F
  intro H locs ls hP hS hL
  exact lv_iushr hx hb hd hv (k H locs ls hP hS hL)
theorem g_i2c (F : FX X g cc nL own rf rl) {x v : Int32} (hd : decode cc pc = .ok (.i2c, 1)) (hv : (x.toUInt32 % 65536).toInt32 = v) (k : G X g nL M (pc + 1) lv (.int v :: st)) : G X g nL M pc lv (.int x :: st) := by
  obtain ⟨p, l, e, R, s, m, args, below, meth, c, cells, slots, Q⟩ := X
  obtain ⟨⟨hx, hb, hml, hown, hts⟩, hW, hrf, hrl, hcl, hsl, hgb⟩ := F
  intro H locs ls hP hS hL
  exact lv_i2c hx hb hd hv (k H locs ls hP hS hL)
theorem g_i2l (F : FX X g cc nL own rf rl) {x : Int32} {v : Int64} (hd : decode cc pc = .ok (.i2l, 1)) (hv : x.toInt64 = v) (k : G X g nL M (pc + 1) lv (.long v :: st)) : G X g nL M pc lv (.int x :: st) := by
  obtain ⟨p, l, e, R, s, m, args, below, meth, c, cells, slots, Q⟩ := X
  obtain ⟨⟨hx, hb, hml, hown, hts⟩, hW, hrf, hrl, hcl, hsl, hgb⟩ := F
  intro H locs ls hP hS hL
  exact lv_i2l hx hb hd hv (k H locs ls hP hS hL)
theorem g_lshl (F : FX X g cc nL own rf rl) {x v : Int64} {y : Int32} (hd : decode cc pc = .ok (.lshl, 1)) (hv : x <<< (y.toInt64 &&& 63) = v) (k : G X g nL M (pc + 1) lv (.long v :: st)) : G X g nL M pc lv (.int y :: .long x :: st) := by
  obtain ⟨p, l, e, R, s, m, args, below, meth, c, cells, slots, Q⟩ := X
  obtain ⟨⟨hx, hb, hml, hown, hts⟩, hW, hrf, hrl, hcl, hsl, hgb⟩ := F
  intro H locs ls hP hS hL
  exact lv_lshl hx hb hd hv (k H locs ls hP hS hL)
theorem g_lor (F : FX X g cc nL own rf rl) {x y : Int64} (hd : decode cc pc = .ok (.lor, 1)) (k : G X g nL M (pc + 1) lv (.long (x ||| y) :: st)) : G X g nL M pc lv (.long y :: .long x :: st) := by
  obtain ⟨p, l, e, R, s, m, args, below, meth, c, cells, slots, Q⟩ := X
  obtain ⟨⟨hx, hb, hml, hown, hts⟩, hW, hrf, hrl, hcl, hsl, hgb⟩ := F
  intro H locs ls hP hS hL
  exact lv_lor hx hb hd (k H locs ls hP hS hL)
theorem g_lcmp (F : FX X g cc nL own rf rl) {x y : Int64} (hd : decode cc pc = .ok (.lcmp, 1)) (k : G X g nL M (pc + 1) lv (.int (lg_cmp x y) :: st)) : G X g nL M pc lv (.long y :: .long x :: st) := by
  obtain ⟨p, l, e, R, s, m, args, below, meth, c, cells, slots, Q⟩ := X
  obtain ⟨⟨hx, hb, hml, hown, hts⟩, hW, hrf, hrl, hcl, hsl, hgb⟩ := F
  intro H locs ls hP hS hL
  exact W.lcmp hx hb hd (k H locs ls hP hS hL)
theorem g_dadd (F : FX X g cc nL own rf rl) {x y : UInt64} (hne : vf_n64 (FP.dadd x y)) (hd : decode cc pc = .ok (.dadd, 1)) (k : G X g nL M (pc + 1) lv (.double (FP.dadd x y) :: st)) : G X g nL M pc lv (.double y :: .double x :: st) := by
  obtain ⟨p, l, e, R, s, m, args, below, meth, c, cells, slots, Q⟩ := X
  obtain ⟨⟨hx, hb, hml, hown, hts⟩, hW, hrf, hrl, hcl, hsl, hgb⟩ := F
  intro H locs ls hP hS hL
  exact lv_dadd hx hb hd hne (k H locs ls hP hS hL)
theorem g_dsub (F : FX X g cc nL own rf rl) {x y : UInt64} (hne : vf_n64 (FP.dsub x y)) (hd : decode cc pc = .ok (.dsub, 1)) (k : G X g nL M (pc + 1) lv (.double (FP.dsub x y) :: st)) : G X g nL M pc lv (.double y :: .double x :: st) := by
  obtain ⟨p, l, e, R, s, m, args, below, meth, c, cells, slots, Q⟩ := X
  obtain ⟨⟨hx, hb, hml, hown, hts⟩, hW, hrf, hrl, hcl, hsl, hgb⟩ := F
  intro H locs ls hP hS hL
  exact lv_dsub hx hb hd hne (k H locs ls hP hS hL)
theorem g_dmul (F : FX X g cc nL own rf rl) {x y : UInt64} (hne : vf_n64 (FP.dmul x y)) (hd : decode cc pc = .ok (.dmul, 1)) (k : G X g nL M (pc + 1) lv (.double (FP.dmul x y) :: st)) : G X g nL M pc lv (.double y :: .double x :: st) := by
  obtain ⟨p, l, e, R, s, m, args, below, meth, c, cells, slots, Q⟩ := X
  obtain ⟨⟨hx, hb, hml, hown, hts⟩, hW, hrf, hrl, hcl, hsl, hgb⟩ := F
  intro H locs ls hP hS hL
  exact lv_dmul hx hb hd hne (k H locs ls hP hS hL)
theorem g_ddiv (F : FX X g cc nL own rf rl) {x y : UInt64} (hne : vf_n64 (FP.ddiv x y)) (hd : decode cc pc = .ok (.ddiv, 1)) (k : G X g nL M (pc + 1) lv (.double (FP.ddiv x y) :: st)) : G X g nL M pc lv (.double y :: .double x :: st) := by
  obtain ⟨p, l, e, R, s, m, args, below, meth, c, cells, slots, Q⟩ := X
  obtain ⟨⟨hx, hb, hml, hown, hts⟩, hW, hrf, hrl, hcl, hsl, hgb⟩ := F
  intro H locs ls hP hS hL
  exact lv_ddiv hx hb hd hne (k H locs ls hP hS hL)
theorem g_dneg (F : FX X g cc nL own rf rl) {x : UInt64} (hd : decode cc pc = .ok (.dneg, 1)) (k : G X g nL M (pc + 1) lv (.double (FP.dneg x) :: st)) : G X g nL M pc lv (.double x :: st) := by
  obtain ⟨p, l, e, R, s, m, args, below, meth, c, cells, slots, Q⟩ := X
  obtain ⟨⟨hx, hb, hml, hown, hts⟩, hW, hrf, hrl, hcl, hsl, hgb⟩ := F
  intro H locs ls hP hS hL
  exact lv_dneg hx hb hd (k H locs ls hP hS hL)
theorem g_dcmp (F : FX X g cc nL own rf rl) {x y : UInt64} {op : CmpOp} (hd : decode cc pc = .ok (.dcmp op, 1)) (k : G X g nL M (pc + 1) lv (.int (Op.cmpValue (FP.dcmp x y) op) :: st)) : G X g nL M pc lv (.double y :: .double x :: st) := by
  obtain ⟨p, l, e, R, s, m, args, below, meth, c, cells, slots, Q⟩ := X
  obtain ⟨⟨hx, hb, hml, hown, hts⟩, hW, hrf, hrl, hcl, hsl, hgb⟩ := F
  intro H locs ls hP hS hL
  exact lv_dcmp hx hb hd (k H locs ls hP hS hL)
theorem g_i2d (F : FX X g cc nL own rf rl) {x : Int32} (hd : decode cc pc = .ok (.i2d, 1)) (k : G X g nL M (pc + 1) lv (.double (FP.i2d x) :: st)) : G X g nL M pc lv (.int x :: st) := by
  obtain ⟨p, l, e, R, s, m, args, below, meth, c, cells, slots, Q⟩ := X
  obtain ⟨⟨hx, hb, hml, hown, hts⟩, hW, hrf, hrl, hcl, hsl, hgb⟩ := F
  intro H locs ls hP hS hL
  exact lv_i2d hx hb hd (k H locs ls hP hS hL)
theorem g_d2l (F : FX X g cc nL own rf rl) {x : UInt64} (hd : decode cc pc = .ok (.d2l, 1)) (k : G X g nL M (pc + 1) lv (.long (FP.d2l x) :: st)) : G X g nL M pc lv (.double x :: st) := by
  obtain ⟨p, l, e, R, s, m, args, below, meth, c, cells, slots, Q⟩ := X
  obtain ⟨⟨hx, hb, hml, hown, hts⟩, hW, hrf, hrl, hcl, hsl, hgb⟩ := F
  intro H locs ls hP hS hL
  exact lv_d2l hx hb hd (k H locs ls hP hS hL)
theorem g_dup (F : FX X g cc nL own rf rl) {v : Value} (hd : decode cc pc = .ok (.dup, 1)) (hv : v.category = 1) (k : G X g nL M (pc + 1) lv (v :: v :: st)) : G X g nL M pc lv (v :: st) := by
  obtain ⟨p, l, e, R, s, m, args, below, meth, c, cells, slots, Q⟩ := X
  obtain ⟨⟨hx, hb, hml, hown, hts⟩, hW, hrf, hrl, hcl, hsl, hgb⟩ := F
  intro H locs ls hP hS hL
  exact lv_dup hx hb hd hv (k H locs ls hP hS hL)
theorem g_pop (F : FX X g cc nL own rf rl) {v : Value} (hd : decode cc pc = .ok (.pop, 1)) (hv : v.category = 1) (k : G X g nL M (pc + 1) lv st) : G X g nL M pc lv (v :: st) := by
  obtain ⟨p, l, e, R, s, m, args, below, meth, c, cells, slots, Q⟩ := X
  obtain ⟨⟨hx, hb, hml, hown, hts⟩, hW, hrf, hrl, hcl, hsl, hgb⟩ := F
  intro H locs ls hP hS hL
  exact lv_pop hx hb hd hv (k H locs ls hP hS hL)
theorem g_dup2 (F : FX X g cc nL own rf rl) {v w : Value} (hd : decode cc pc = .ok (.dup2, 1)) (hv : v.category = 1) (hw : w.category = 1) (k : G X g nL M (pc + 1) lv (v :: w :: v :: w :: st)) : G X g nL M pc lv (v :: w :: st) := by
  obtain ⟨p, l, e, R, s, m, args, below, meth, c, cells, slots, Q⟩ := X
  obtain ⟨⟨hx, hb, hml, hown, hts⟩, hW, hrf, hrl, hcl, hsl, hgb⟩ := F
  intro H locs ls hP hS hL
  exact lv_dup2_11 hx hb hd hv hw (k H locs ls hP hS hL)
theorem g_goto (F : FX X g cc nL own rf rl) {off : Int} {tgt : Nat} (hd : decode cc pc = .ok (.goto off, 3)) (ht : (pc : Int) + off = (tgt : Int)) (k : G X g nL M tgt lv st) : G X g nL M pc lv st := by
  obtain ⟨p, l, e, R, s, m, args, below, meth, c, cells, slots, Q⟩ := X
  obtain ⟨⟨hx, hb, hml, hown, hts⟩, hW, hrf, hrl, hcl, hsl, hgb⟩ := F
  intro H locs ls hP hS hL
  exact lv_goto hx hb hd ht (k H locs ls hP hS hL)
theorem g_if_eq (F : FX X g cc nL own rf rl) {x : Int32} {off : Int} {tgt : Nat} (hd : decode cc pc = .ok (.ifCond .eq off, 3)) (ht : (pc : Int) + off = (tgt : Int)) (kt : x = 0 → G X g nL M tgt lv st) (kf : ¬ x = 0 → G X g nL M (pc + 3) lv st) : G X g nL M pc lv (.int x :: st) := by
  obtain ⟨p, l, e, R, s, m, args, below, meth, c, cells, slots, Q⟩ := X
  obtain ⟨⟨hx, hb, hml, hown, hts⟩, hW, hrf, hrl, hcl, hsl, hgb⟩ := F
  intro H locs ls hP hS hL
  exact lv_if_eq hx hb hd ht (fun q => kt q H locs ls hP hS hL) (fun q => kf q H locs ls hP hS hL)
theorem g_icmp_eq (F : FX X g cc nL own rf rl) {x y : Int32} {off : Int} {tgt : Nat} (hd : decode cc pc = .ok (.if_icmp .eq off, 3)) (ht : (pc : Int) + off = (tgt : Int)) (kt : x = y → G X g nL M tgt lv st) (kf : ¬ x = y → G X g nL M (pc + 3) lv st) : G X g nL M pc lv (.int y :: .int x :: st) := by
  obtain ⟨p, l, e, R, s, m, args, below, meth, c, cells, slots, Q⟩ := X
  obtain ⟨⟨hx, hb, hml, hown, hts⟩, hW, hrf, hrl, hcl, hsl, hgb⟩ := F
  intro H locs ls hP hS hL
  exact lv_icmp_eq hx hb hd ht (fun q => kt q H locs ls hP hS hL) (fun q => kf q H locs ls hP hS hL)
theorem g_if_ne (F : FX X g cc nL own rf rl) {x : Int32} {off : Int} {tgt : Nat} (hd : decode cc pc = .ok (.ifCond .ne off, 3)) (ht : (pc : Int) + off = (tgt : Int)) (kt : ¬ x = 0 → G X g nL M tgt lv st) (kf : x = 0 → G X g nL M (pc + 3) lv st) : G X g nL M pc lv (.int x :: st) := by
  obtain ⟨p, l, e, R, s, m, args, below, meth, c, cells, slots, Q⟩ := X
  obtain ⟨⟨hx, hb, hml, hown, hts⟩, hW, hrf, hrl, hcl, hsl, hgb⟩ := F
  intro H locs ls hP hS hL
  exact lv_if_ne hx hb hd ht (fun q => kt q H locs ls hP hS hL) (fun q => kf q H locs ls hP hS hL)
theorem g_icmp_ne (F : FX X g cc nL own rf rl) {x y : Int32} {off : Int} {tgt : Nat} (hd : decode cc pc = .ok (.if_icmp .ne off, 3)) (ht : (pc : Int) + off = (tgt : Int)) (kt : ¬ x = y → G X g nL M tgt lv st) (kf : x = y → G X g nL M (pc + 3) lv st) : G X g nL M pc lv (.int y :: .int x :: st) := by
  obtain ⟨p, l, e, R, s, m, args, below, meth, c, cells, slots, Q⟩ := X
  obtain ⟨⟨hx, hb, hml, hown, hts⟩, hW, hrf, hrl, hcl, hsl, hgb⟩ := F
  intro H locs ls hP hS hL
  exact lv_icmp_ne hx hb hd ht (fun q => kt q H locs ls hP hS hL) (fun q => kf q H locs ls hP hS hL)
theorem g_if_lt (F : FX X g cc nL own rf rl) {x : Int32} {off : Int} {tgt : Nat} (hd : decode cc pc = .ok (.ifCond .lt off, 3)) (ht : (pc : Int) + off = (tgt : Int)) (kt : x < 0 → G X g nL M tgt lv st) (kf : ¬ x < 0 → G X g nL M (pc + 3) lv st) : G X g nL M pc lv (.int x :: st) := by
  obtain ⟨p, l, e, R, s, m, args, below, meth, c, cells, slots, Q⟩ := X
  obtain ⟨⟨hx, hb, hml, hown, hts⟩, hW, hrf, hrl, hcl, hsl, hgb⟩ := F
  intro H locs ls hP hS hL
  exact lv_if_lt hx hb hd ht (fun q => kt q H locs ls hP hS hL) (fun q => kf q H locs ls hP hS hL)
theorem g_icmp_lt (F : FX X g cc nL own rf rl) {x y : Int32} {off : Int} {tgt : Nat} (hd : decode cc pc = .ok (.if_icmp .lt off, 3)) (ht : (pc : Int) + off = (tgt : Int)) (kt : x < y → G X g nL M tgt lv st) (kf : ¬ x < y → G X g nL M (pc + 3) lv st) : G X g nL M pc lv (.int y :: .int x :: st) := by
  obtain ⟨p, l, e, R, s, m, args, below, meth, c, cells, slots, Q⟩ := X
  obtain ⟨⟨hx, hb, hml, hown, hts⟩, hW, hrf, hrl, hcl, hsl, hgb⟩ := F
  intro H locs ls hP hS hL
  exact lv_icmp_lt hx hb hd ht (fun q => kt q H locs ls hP hS hL) (fun q => kf q H locs ls hP hS hL)
theorem g_if_ge (F : FX X g cc nL own rf rl) {x : Int32} {off : Int} {tgt : Nat} (hd : decode cc pc = .ok (.ifCond .ge off, 3)) (ht : (pc : Int) + off = (tgt : Int)) (kt : 0 ≤ x → G X g nL M tgt lv st) (kf : ¬ 0 ≤ x → G X g nL M (pc + 3) lv st) : G X g nL M pc lv (.int x :: st) := by
  obtain ⟨p, l, e, R, s, m, args, below, meth, c, cells, slots, Q⟩ := X
  obtain ⟨⟨hx, hb, hml, hown, hts⟩, hW, hrf, hrl, hcl, hsl, hgb⟩ := F
  intro H locs ls hP hS hL
  exact lv_if_ge hx hb hd ht (fun q => kt q H locs ls hP hS hL) (fun q => kf q H locs ls hP hS hL)
theorem g_icmp_ge (F : FX X g cc nL own rf rl) {x y : Int32} {off : Int} {tgt : Nat} (hd : decode cc pc = .ok (.if_icmp .ge off, 3)) (ht : (pc : Int) + off = (tgt : Int)) (kt : y ≤ x → G X g nL M tgt lv st) (kf : ¬ y ≤ x → G X g nL M (pc + 3) lv st) : G X g nL M pc lv (.int y :: .int x :: st) := by
  obtain ⟨p, l, e, R, s, m, args, below, meth, c, cells, slots, Q⟩ := X
  obtain ⟨⟨hx, hb, hml, hown, hts⟩, hW, hrf, hrl, hcl, hsl, hgb⟩ := F
  intro H locs ls hP hS hL
  exact lv_icmp_ge hx hb hd ht (fun q => kt q H locs ls hP hS hL) (fun q => kf q H locs ls hP hS hL)
theorem g_if_gt (F : FX X g cc nL own rf rl) {x : Int32} {off : Int} {tgt : Nat} (hd : decode cc pc = .ok (.ifCond .gt off, 3)) (ht : (pc : Int) + off = (tgt : Int)) (kt : 0 < x → G X g nL M tgt lv st) (kf : ¬ 0 < x → G X g nL M (pc + 3) lv st) : G X g nL M pc lv (.int x :: st) := by
  obtain ⟨p, l, e, R, s, m, args, below, meth, c, cells, slots, Q⟩ := X
  obtain ⟨⟨hx, hb, hml, hown, hts⟩, hW, hrf, hrl, hcl, hsl, hgb⟩ := F
  intro H locs ls hP hS hL
  exact lv_if_gt hx hb hd ht (fun q => kt q H locs ls hP hS hL) (fun q => kf q H locs ls hP hS hL)
theorem g_icmp_gt (F : FX X g cc nL own rf rl) {x y : Int32} {off : Int} {tgt : Nat} (hd : decode cc pc = .ok (.if_icmp .gt off, 3)) (ht : (pc : Int) + off = (tgt : Int)) (kt : y < x → G X g nL M tgt lv st) (kf : ¬ y < x → G X g nL M (pc + 3) lv st) : G X g nL M pc lv (.int y :: .int x :: st) := by
  obtain ⟨p, l, e, R, s, m, args, below, meth, c, cells, slots, Q⟩ := X
  obtain ⟨⟨hx, hb, hml, hown, hts⟩, hW, hrf, hrl, hcl, hsl, hgb⟩ := F
  intro H locs ls hP hS hL
  exact lv_icmp_gt hx hb hd ht (fun q => kt q H locs ls hP hS hL) (fun q => kf q H locs ls hP hS hL)
theorem g_if_le (F : FX X g cc nL own rf rl) {x : Int32} {off : Int} {tgt : Nat} (hd : decode cc pc = .ok (.ifCond .le off, 3)) (ht : (pc : Int) + off = (tgt : Int)) (kt : x ≤ 0 → G X g nL M tgt lv st) (kf : ¬ x ≤ 0 → G X g nL M (pc + 3) lv st) : G X g nL M pc lv (.int x :: st) := by
  obtain ⟨p, l, e, R, s, m, args, below, meth, c, cells, slots, Q⟩ := X
  obtain ⟨⟨hx, hb, hml, hown, hts⟩, hW, hrf, hrl, hcl, hsl, hgb⟩ := F
  intro H locs ls hP hS hL
  exact lv_if_le hx hb hd ht (fun q => kt q H locs ls hP hS hL) (fun q => kf q H locs ls hP hS hL)
theorem g_icmp_le (F : FX X g cc nL own rf rl) {x y : Int32} {off : Int} {tgt : Nat} (hd : decode cc pc = .ok (.if_icmp .le off, 3)) (ht : (pc : Int) + off = (tgt : Int)) (kt : x ≤ y → G X g nL M tgt lv st) (kf : ¬ x ≤ y → G X g nL M (pc + 3) lv st) : G X g nL M pc lv (.int y :: .int x :: st) := by
  obtain ⟨p, l, e, R, s, m, args, below, meth, c, cells, slots, Q⟩ := X
  obtain ⟨⟨hx, hb, hml, hown, hts⟩, hW, hrf, hrl, hcl, hsl, hgb⟩ := F
  intro H locs ls hP hS hL
  exact lv_icmp_le hx hb hd ht (fun q => kt q H locs ls hP hS hL) (fun q => kf q H locs ls hP hS hL)
theorem g_ifnonnull (F : FX X g cc nL own rf rl) {x : Nat} {off : Int} {tgt : Nat} (hd : decode cc pc = .ok (.ifnonnull off, 3)) (ht : (pc : Int) + off = (tgt : Int)) (k : G X g nL M tgt lv st) : G X g nL M pc lv (.ref x :: st) := by
  obtain ⟨p, l, e, R, s, m, args, below, meth, c, cells, slots, Q⟩ := X
  obtain ⟨⟨hx, hb, hml, hown, hts⟩, hW, hrf, hrl, hcl, hsl, hgb⟩ := F
  intro H locs ls hP hS hL
  exact lv_ifnonnull hx hb hd ht (k H locs ls hP hS hL)
theorem g_ifnull (F : FX X g cc nL own rf rl) {x : Nat} {off : Int} (hd : decode cc pc = .ok (.ifnull off, 3)) (k : G X g nL M (pc + 3) lv st) : G X g nL M pc lv (.ref x :: st) := by
  obtain ⟨p, l, e, R, s, m, args, below, meth, c, cells, slots, Q⟩ := X
  obtain ⟨⟨hx, hb, hml, hown, hts⟩, hW, hrf, hrl, hcl, hsl, hgb⟩ := F
  intro H locs ls hP hS hL
  exact lv_ifnull hx hb hd (k H locs ls hP hS hL)
theorem g_ifnullN (F : FX X g cc nL own rf rl) {off : Int} {tgt : Nat} (hd : decode cc pc = .ok (.ifnull off, 3)) (ht : (pc : Int) + off = (tgt : Int)) (k : G X g nL M tgt lv st) : G X g nL M pc lv (.null :: st) := by
  obtain ⟨p, l, e, R, s, m, args, below, meth, c, cells, slots, Q⟩ := X
  obtain ⟨⟨hx, hb, hml, hown, hts⟩, hW, hrf, hrl, hcl, hsl, hgb⟩ := F
  intro H locs ls hP hS hL
  exact lv_ifnullN hx hb hd ht (k H locs ls hP hS hL)
theorem g_ifnonnullN (F : FX X g cc nL own rf rl) {off : Int} (hd : decode cc pc = .ok (.ifnonnull off, 3)) (k : G X g nL M (pc + 3) lv st) : G X g nL M pc lv (.null :: st) := by
  obtain ⟨p, l, e, R, s, m, args, below, meth, c, cells, slots, Q⟩ := X
  obtain ⟨⟨hx, hb, hml, hown, hts⟩, hW, hrf, hrl, hcl, hsl, hgb⟩ := F
  intro H locs ls hP hS hL
  exact lv_ifnonnullN hx hb hd (k H locs ls hP hS hL)
theorem g_tableOut (F : FX X g cc nL own rf rl) {dflt lo hi : Int} {offs : Array Int} {len : Nat} {x : Int32} {tgt : Nat} (hd : decode cc pc = .ok (.tableswitch dflt lo hi offs, len)) (h : x.toInt < lo ∨ hi < x.toInt) (ht : (pc : Int) + dflt = (tgt : Int)) (k : G X g nL M tgt lv st) : G X g nL M pc lv (.int x :: st) := by
  obtain ⟨p, l, e, R, s, m, args, below, meth, c, cells, slots, Q⟩ := X
  obtain ⟨⟨hx, hb, hml, hown, hts⟩, hW, hrf, hrl, hcl, hsl, hgb⟩ := F
  intro H locs ls hP hS hL
  exact lv_tableOut hx hb hd h ht (k H locs ls hP hS hL)
theorem g_tableIn (F : FX X g cc nL own rf rl) {dflt lo hi : Int} {offs : Array Int} {len : Nat} {x : Int32} {off : Int} {tgt : Nat} (hd : decode cc pc = .ok (.tableswitch dflt lo hi offs, len)) (h1 : ¬ x.toInt < lo) (h2 : ¬ hi < x.toInt) (ho : offs[(x.toInt - lo).toNat]? = some off) (ht : (pc : Int) + off = (tgt : Int)) (k : G X g nL M tgt lv st) : G X g nL M pc lv (.int x :: st) := by
  obtain ⟨p, l, e, R, s, m, args, below, meth, c, cells, slots, Q⟩ := X
  obtain ⟨⟨hx, hb, hml, hown, hts⟩, hW, hrf, hrl, hcl, hsl, hgb⟩ := F
  intro H locs ls hP hS hL
  exact lv_tableIn hx hb hd h1 h2 ho ht (k H locs ls hP hS hL)
theorem g_lookup (F : FX X g cc nL own rf rl) {dflt : Int} {ps : Array (Int × Int)} {len : Nat} {x : Int32} {off : Int} {tgt : Nat} (hd : decode cc pc = .ok (.lookupswitch dflt ps, len)) (hp : (ps.toList.zip (ps.toList.drop 1)).all (fun (a, next) => a.1 < next.1) = true) (ho : Op.lookupswitch.offset ps.toList dflt x.toInt = off) (ht : (pc : Int) + off = (tgt : Int)) (k : G X g nL M tgt lv st) : G X g nL M pc lv (.int x :: st) := by
  obtain ⟨p, l, e, R, s, m, args, below, meth, c, cells, slots, Q⟩ := X
  obtain ⟨⟨hx, hb, hml, hown, hts⟩, hW, hrf, hrl, hcl, hsl, hgb⟩ := F
  intro H locs ls hP hS hL
  exact lv_lookup hx hb hd hp ho ht (k H locs ls hP hS hL)
end GROWS
/-! fields -/
def FL (own : String) (idx ci j : Nat) (fin : Bool) (ty : FieldType) : Prop := ∃ (C : String) (T : u_T) (N : Nat) (ty0 : Nat → FieldType), vwCl[ci]? = some (C, T, N) ∧ ci < 9 ∧ (∀ w ∈ u_ws C T N, w ∈ lw_ws) ∧ j < N ∧ (∀ k, k < N → parseFieldDescriptor (T k).2.2.1 = some (ty0 k)) ∧ (∀ a, a < N → ∀ b, b < N → a ≠ b → (T a).2.1 ≠ (T b).2.1) ∧ (Cond.fieldLink own idx (T j).1 (T j).2.1 (T j).2.2.1 ∈ lw_ws ∨ Cond.fieldLinkNest own idx (T j).1 (T j).2.1 (T j).2.2.1 "RenewalClocks" ∈ nestW) ∧ (T j).2.2.2 = fin ∧ ty0 j = ty
section GMEM
variable {X : XT} {g : Gm} {cc : ByteArray} {nL : Nat} {own : String} {rf rl : Nat} {M : Mem} {pc : Nat} {lv : List (Option Value)} {st : List Value}
theorem g_geti (F : FX X g cc nL own rf rl) {k ci j idx : Nat} {fin : Bool} {ty : FieldType} (w : FL own idx ci j fin ty) (hk : kd k = ci) (ht : (tpl ci)[j]? = some none) (hd : decode cc pc = .ok (.getfield idx, 3)) (kk : G X g nL M (pc + 3) lv (.int (M k j) :: st)) : G X g nL M pc lv (.ref (ad g k) :: st) := by
  obtain ⟨p, l, e, R, s, m, args, below, meth, c, cells, slots, Q⟩ := X
  obtain ⟨⟨hx, hb, hml, hown, hts⟩, hW, hrf, hrl, hcl, hsl, hgb⟩ := F
  intro H locs ls hP hS hL
  obtain ⟨C, T, N, ty0, hc, h9, hin, hj, hty, hnm, hl, hf, ht0⟩ := w
  have hkk := kd_lt hk (by omega)
  have he : (wWs g M)[k]? = some (ad g k, .inr (ci, wF g M k 0 (tpl ci))) := by rw [wWs_at g M hkk, wE_obj g M hk h9]
  have hv : (wF g M k 0 (tpl ci))[j]? = some (.int (M k j)) := by
    have h := wF_at g M k (tpl ci) 0 j ht
    simpa [rv] using h
  rcases hl with hl | hl
  · exact va_get hx hb hts hin hown hW.2.2.1 hP k he hc j hj (hts _ hl) (fun _ h => h) hv hd (kk H locs ls hP hS hL)
  · exact va_getN hx hb hts hin hown hW.2.2.1 hP k he hc j hj (va_Nw.use rfl (hW.2.2.2 _ hl)) (fun _ h => h) hv hd (kk H locs ls hP hS hL)
theorem g_getr (F : FX X g cc nL own rf rl) {k ci j idx : Nat} {fin : Bool} {ty : FieldType} {f : Nat → Nat} (w : FL own idx ci j fin ty) (hk : kd k = ci) (ht : (tpl ci)[j]? = some (some f)) (hd : decode cc pc = .ok (.getfield idx, 3)) (kk : G X g nL M (pc + 3) lv (.ref (ad g (f k)) :: st)) : G X g nL M pc lv (.ref (ad g k) :: st) := by
  obtain ⟨p, l, e, R, s, m, args, below, meth, c, cells, slots, Q⟩ := X
  obtain ⟨⟨hx, hb, hml, hown, hts⟩, hW, hrf, hrl, hcl, hsl, hgb⟩ := F
  intro H locs ls hP hS hL
  obtain ⟨C, T, N, ty0, hc, h9, hin, hj, hty, hnm, hl, hf, ht0⟩ := w
  have hkk := kd_lt hk (by omega)
  have he : (wWs g M)[k]? = some (ad g k, .inr (ci, wF g M k 0 (tpl ci))) := by rw [wWs_at g M hkk, wE_obj g M hk h9]
  have hv : (wF g M k 0 (tpl ci))[j]? = some (.ref (ad g (f k))) := by
    have h := wF_at g M k (tpl ci) 0 j ht
    simpa [rv] using h
  rcases hl with hl | hl
  · exact va_get hx hb hts hin hown hW.2.2.1 hP k he hc j hj (hts _ hl) (fun _ h => h) hv hd (kk H locs ls hP hS hL)
  · exact va_getN hx hb hts hin hown hW.2.2.1 hP k he hc j hj (va_Nw.use rfl (hW.2.2.2 _ hl)) (fun _ h => h) hv hd (kk H locs ls hP hS hL)
theorem g_puti (F : FX X g cc nL own rf rl) {k ci j idx : Nat} {ty : FieldType} {x : Int32} (w : FL own idx ci j false ty) (hn : narrow ty (.int x) = .int x) (hfit : fits ty (.int x) = true) (hk : kd k = ci) (ht : (tpl ci)[j]? = some none) (hd : decode cc pc = .ok (.putfield idx, 3)) (kk : G X g nL (upd2 M k j x) (pc + 3) lv st) : G X g nL M pc lv (.int x :: .ref (ad g k) :: st) := by
  obtain ⟨p, l, e, R, s, m, args, below, meth, c, cells, slots, Q⟩ := X
  obtain ⟨⟨hx, hb, hml, hown, hts⟩, hW, hrf, hrl, hcl, hsl, hgb⟩ := F
  intro H locs ls hP hS hL
  obtain ⟨C, T, N, ty0, hc, h9, hin, hj, hty, hnm, hl, hf, ht0⟩ := w
  have hkk := kd_lt hk (by omega)
  have he : (wWs g M)[k]? = some (ad g k, .inr (ci, wF g M k 0 (tpl ci))) := by rw [wWs_at g M hkk, wE_obj g M hk h9]
  have hlen : j < (wF g M k 0 (tpl ci)).length := by
    rw [wF_len]
    exact (List.getElem?_eq_some_iff.mp ht).1
  have hset : (wWs g M).set k (ad g k, .inr (ci, (wF g M k 0 (tpl ci)).set j (.int x))) = wWs g (upd2 M k j x) := by
    refine wWs_set g hkk ?_ (fun a ha => wE_row g (upd2_ne M j x ha))
    rw [wE_obj g _ hk h9, wF_set g M k j x (tpl ci) 0 j (Nat.zero_add _) ht]
  have hdty : parseFieldDescriptor (T j).2.2.1 = some ty := by rw [hty j hj, ht0]
  rcases hl with hl | hl
  · refine va_put hx hb hts hin ty0 hty hnm hown hW.2.2.1 hP (wWs_D hW M) hS k he hc j hj (hts _ hl) (fun _ h => h) hf hdty hn hfit hlen hd (fun H1 locs1 hP1 hD1 hS1 => ?_)
    rw [hset] at hP1
    exact kk H1 locs1 ls hP1 hS1 hL
  · refine va_putN hx hb hts hin ty0 hty hnm hown hW.2.2.1 hP (wWs_D hW M) hS k he hc j hj (va_Nw.use rfl (hW.2.2.2 _ hl)) (fun _ h => h) hf hdty hn hfit hlen hd (fun H1 locs1 hP1 hD1 hS1 => ?_)
    rw [hset] at hP1
    exact kk H1 locs1 ls hP1 hS1 hL
/-! arrays -/
theorem iarr_le {c n : Nat} (h : iarr c = some n) : n ≤ 440 := by
  unfold iarr at h
  split at h <;> simp at h <;> omega
theorem g_iald (F : FX X g cc nL own rf rl) {k c n q : Nat} {i : Int32} (hk : kd k = c) (hn : iarr c = some n) (hi : i = nI q) (hq : q < n) (hd : decode cc pc = .ok (.iaload, 1)) (kk : G X g nL M (pc + 1) lv (.int (M k q) :: st)) : G X g nL M pc lv (.int i :: .ref (ad g k) :: st) := by
  obtain ⟨p, l, e, R, s, m, args, below, meth, c0, cells, slots, Q⟩ := X
  obtain ⟨⟨hx, hb, hml, hown, hts⟩, hW, hrf, hrl, hcl, hsl, hgb⟩ := F
  intro H locs ls hP hS hL
  have hkk : k < 231 := kd_lt hk (by unfold iarr at hn; split at hn <;> simp_all)
  have hn4 := iarr_le hn
  subst hi
  refine va_iald hx hb hW.2.2.1 hP k 0 (by rw [wWs_at g M hkk, wE_iarr g M hk hn]) rfl (vp_in_nI hq (by omega)) hd ?_
  rw [nI_clamp (by omega)]
  exact kk H locs ls hP hS hL
theorem g_iast (F : FX X g cc nL own rf rl) {k c n q : Nat} {i x : Int32} (hk : kd k = c) (hn : iarr c = some n) (hi : i = nI q) (hq : q < n) (hd : decode cc pc = .ok (.iastore, 1)) (kk : G X g nL (upd2 M k q x) (pc + 1) lv st) : G X g nL M pc lv (.int x :: .int i :: .ref (ad g k) :: st) := by
  obtain ⟨p, l, e, R, s, m, args, below, meth, c0, cells, slots, Q⟩ := X
  obtain ⟨⟨hx, hb, hml, hown, hts⟩, hW, hrf, hrl, hcl, hsl, hgb⟩ := F
  intro H locs ls hP hS hL
  have hkk : k < 231 := kd_lt hk (by unfold iarr at hn; split at hn <;> simp_all)
  have hn4 := iarr_le hn
  subst hi
  refine va_iast hx hb hW.2.2.1 hP (wWs_D hW M) hS k 0 (by rw [wWs_at g M hkk, wE_iarr g M hk hn]) rfl (vp_in_nI hq (by omega)) hd (fun H1 locs1 hP1 hD1 hS1 => ?_)
  rw [nI_clamp (by omega)] at hP1
  rw [wWs_set g hkk (M' := upd2 M k q x) (by rw [wE_iarr g _ hk hn, upd2_row]) (fun a ha => wE_row g (upd2_ne M _ x ha))] at hP1
  exact kk H1 locs1 ls hP1 hS1 hL
theorem wE_14 (g : Gm) (M : Mem) {k : Nat} (h : kd k = 14) : wE g M k = .inl (gC g 1, 60, .inl (M k)) := by rw [wE_arr g M h (by decide)]; rfl
theorem g_cald (F : FX X g cc nL own rf rl) {k q : Nat} {i : Int32} (hk : kd k = 14) (hi : i = nI q) (hq : q < 60) (hd : decode cc pc = .ok (.caload, 1)) (kk : G X g nL M (pc + 1) lv (.int (M k q) :: st)) : G X g nL M pc lv (.int i :: .ref (ad g k) :: st) := by
  obtain ⟨p, l, e, R, s, m, args, below, meth, c0, cells, slots, Q⟩ := X
  obtain ⟨⟨hx, hb, hml, hown, hts⟩, hW, hrf, hrl, hcl, hsl, hgb⟩ := F
  intro H locs ls hP hS hL
  subst hi
  refine va_cald hx hb hW.2.2.1 hP k 1 (by rw [wWs_at g M (kd_lt hk (by decide)), wE_14 g M hk]) rfl (vp_in_nI hq (by decide)) hd ?_
  rw [nI_clamp (by omega)]
  exact kk H locs ls hP hS hL
theorem g_cast (F : FX X g cc nL own rf rl) {k q : Nat} {i x : Int32} (hk : kd k = 14) (hi : i = nI q) (hq : q < 60) (hd : decode cc pc = .ok (.castore, 1)) (kk : G X g nL (upd2 M k q (vp_nar .char x)) (pc + 1) lv st) : G X g nL M pc lv (.int x :: .int i :: .ref (ad g k) :: st) := by
  obtain ⟨p, l, e, R, s, m, args, below, meth, c0, cells, slots, Q⟩ := X
  obtain ⟨⟨hx, hb, hml, hown, hts⟩, hW, hrf, hrl, hcl, hsl, hgb⟩ := F
  intro H locs ls hP hS hL
  have hkk : k < 231 := kd_lt hk (by decide)
  subst hi
  refine va_cast hx hb hW.2.2.1 hP (wWs_D hW M) hS k 1 (by rw [wWs_at g M hkk, wE_14 g M hk]) rfl (vp_in_nI hq (by decide)) hd (fun H1 locs1 hP1 hD1 hS1 => ?_)
  rw [nI_clamp (by omega)] at hP1
  rw [wWs_set g hkk (M' := upd2 M k q (vp_nar .char x)) (by rw [wE_14 g _ hk, upd2_row]) (fun a ha => wE_row g (upd2_ne M _ _ ha))] at hP1
  exact kk H1 locs1 ls hP1 hS1 hL

theorem g_alenC (F : FX X g cc nL own rf rl) {k : Nat} {v : Int32} (hk : kd k = 14) (hv : Int32.ofNat 60 = v) (hd : decode cc pc = .ok (.arraylength, 1)) (kk : G X g nL M (pc + 1) lv (.int v :: st)) : G X g nL M pc lv (.ref (ad g k) :: st) := by
  obtain ⟨p, l, e, R, s, m, args, below, meth, c0, cells, slots, Q⟩ := X
  obtain ⟨⟨hx, hb, hml, hown, hts⟩, hW, hrf, hrl, hcl, hsl, hgb⟩ := F
  intro H locs ls hP hS hL
  exact va_alen (x := (wA g M k 14).2) hx hb hW.2.2.1 hP k 1 (by rw [wWs_at g M (kd_lt hk (by decide)), wE_arr g M hk (by decide)]; rfl) rfl hv hd (kk H locs ls hP hS hL)
theorem g_alenK (F : FX X g cc nL own rf rl) {k : Nat} {v : Int32} (hk : kd k = 15) (hv : Int32.ofNat 6 = v) (hd : decode cc pc = .ok (.arraylength, 1)) (kk : G X g nL M (pc + 1) lv (.int v :: st)) : G X g nL M pc lv (.ref (ad g k) :: st) := by
  obtain ⟨p, l, e, R, s, m, args, below, meth, c0, cells, slots, Q⟩ := X
  obtain ⟨⟨hx, hb, hml, hown, hts⟩, hW, hrf, hrl, hcl, hsl, hgb⟩ := F
  intro H locs ls hP hS hL
  exact va_alen (x := (wA g M k 15).2) hx hb hW.2.2.1 hP k 2 (by rw [wWs_at g M (kd_lt hk (by decide)), wE_arr g M hk (by decide)]; rfl) rfl hv hd (kk H locs ls hP hS hL)
theorem g_alenG (F : FX X g cc nL own rf rl) {k : Nat} {v : Int32} (hk : kd k = 16) (hv : Int32.ofNat 4 = v) (hd : decode cc pc = .ok (.arraylength, 1)) (kk : G X g nL M (pc + 1) lv (.int v :: st)) : G X g nL M pc lv (.ref (ad g k) :: st) := by
  obtain ⟨p, l, e, R, s, m, args, below, meth, c0, cells, slots, Q⟩ := X
  obtain ⟨⟨hx, hb, hml, hown, hts⟩, hW, hrf, hrl, hcl, hsl, hgb⟩ := F
  intro H locs ls hP hS hL
  exact va_alen (x := (wA g M k 16).2) hx hb hW.2.2.1 hP k 3 (by rw [wWs_at g M (kd_lt hk (by decide)), wE_arr g M hk (by decide)]; rfl) rfl hv hd (kk H locs ls hP hS hL)
theorem g_alenS (F : FX X g cc nL own rf rl) {k : Nat} {v : Int32} (hk : kd k = 17) (hv : Int32.ofNat 5 = v) (hd : decode cc pc = .ok (.arraylength, 1)) (kk : G X g nL M (pc + 1) lv (.int v :: st)) : G X g nL M pc lv (.ref (ad g k) :: st) := by
  obtain ⟨p, l, e, R, s, m, args, below, meth, c0, cells, slots, Q⟩ := X
  obtain ⟨⟨hx, hb, hml, hown, hts⟩, hW, hrf, hrl, hcl, hsl, hgb⟩ := F
  intro H locs ls hP hS hL
  exact va_alen (x := (wA g M k 17).2) hx hb hW.2.2.1 hP k 4 (by rw [wWs_at g M (kd_lt hk (by decide)), wE_arr g M hk (by decide)]; rfl) rfl hv hd (kk H locs ls hP hS hL)
theorem g_alen (F : FX X g cc nL own rf rl) {k c n : Nat} {v : Int32} (hk : kd k = c) (hn : iarr c = some n) (hv : Int32.ofNat n = v) (hd : decode cc pc = .ok (.arraylength, 1)) (kk : G X g nL M (pc + 1) lv (.int v :: st)) : G X g nL M pc lv (.ref (ad g k) :: st) := by
  obtain ⟨p, l, e, R, s, m, args, below, meth, c0, cells, slots, Q⟩ := X
  obtain ⟨⟨hx, hb, hml, hown, hts⟩, hW, hrf, hrl, hcl, hsl, hgb⟩ := F
  intro H locs ls hP hS hL
  have hkk : k < 231 := kd_lt hk (by unfold iarr at hn; split at hn <;> simp_all)
  exact va_alen (x := (n, .inl (M k))) hx hb hW.2.2.1 hP k 0 (by rw [wWs_at g M hkk, wE_iarr g M hk hn]) rfl hv hd (kk H locs ls hP hS hL)
theorem g_aaldK (F : FX X g cc nL own rf rl) {k q r : Nat} {i : Int32} (hk : kd k = 15) (hi : i = nI q) (hq : q < 6) (hr : k + 2 + 4 * q = r) (hd : decode cc pc = .ok (.aaload, 1)) (kk : G X g nL M (pc + 1) lv (.ref (ad g r) :: st)) : G X g nL M pc lv (.int i :: .ref (ad g k) :: st) := by
  obtain ⟨p, l, e, R, s, m, args, below, meth, c0, cells, slots, Q⟩ := X
  obtain ⟨⟨hx, hb, hml, hown, hts⟩, hW, hrf, hrl, hcl, hsl, hgb⟩ := F
  intro H locs ls hP hS hL
  subst hi
  subst hr
  refine va_aldq (f := fun j => some (ad g (k + 2 + 4 * j))) hx hb hW.2.2.1 hP k 2 (by rw [wWs_at g M (kd_lt hk (by decide)), wE_arr g M hk (by decide)]; rfl) rfl (vp_in_nI hq (by decide)) hd ?_
  rw [nI_clamp (by omega)]
  exact kk H locs ls hP hS hL
theorem g_aaldG (F : FX X g cc nL own rf rl) {k q r : Nat} {i : Int32} (hk : kd k = 16) (hi : i = nI q) (hq : q < 4) (hr : k + 25 + q = r) (hd : decode cc pc = .ok (.aaload, 1)) (kk : G X g nL M (pc + 1) lv (.ref (ad g r) :: st)) : G X g nL M pc lv (.int i :: .ref (ad g k) :: st) := by
  obtain ⟨p, l, e, R, s, m, args, below, meth, c0, cells, slots, Q⟩ := X
  obtain ⟨⟨hx, hb, hml, hown, hts⟩, hW, hrf, hrl, hcl, hsl, hgb⟩ := F
  intro H locs ls hP hS hL
  subst hi
  subst hr
  refine va_aldq (f := fun j => some (ad g (k + 25 + j))) hx hb hW.2.2.1 hP k 3 (by rw [wWs_at g M (kd_lt hk (by decide)), wE_arr g M hk (by decide)]; rfl) rfl (vp_in_nI hq (by decide)) hd ?_
  rw [nI_clamp (by omega)]
  exact kk H locs ls hP hS hL
theorem g_aaldS (F : FX X g cc nL own rf rl) {k q r : Nat} {i : Int32} (hk : kd k = 17) (hi : i = nI q) (hq : q < 5) (hr : 65 + 31 * (M k q).toNatClampNeg = r) (hd : decode cc pc = .ok (.aaload, 1)) (kk : G X g nL M (pc + 1) lv (.ref (ad g r) :: st)) : G X g nL M pc lv (.int i :: .ref (ad g k) :: st) := by
  obtain ⟨p, l, e, R, s, m, args, below, meth, c0, cells, slots, Q⟩ := X
  obtain ⟨⟨hx, hb, hml, hown, hts⟩, hW, hrf, hrl, hcl, hsl, hgb⟩ := F
  intro H locs ls hP hS hL
  subst hi
  subst hr
  refine va_aldq (f := fun j => some (ad g (65 + 31 * (M k j).toNatClampNeg))) hx hb hW.2.2.1 hP k 4 (by rw [wWs_at g M (kd_lt hk (by decide)), wE_arr g M hk (by decide)]; rfl) rfl (vp_in_nI hq (by decide)) hd ?_
  rw [nI_clamp (by omega)]
  exact kk H locs ls hP hS hL
theorem g_aastS (F : FX X g cc nL own rf rl) {k q i0 : Nat} {i : Int32} (hk : kd k = 17) (hi : i = nI i0) (hi5 : i0 < 5) (hq : q < 5) (hd : decode cc pc = .ok (.aastore, 1)) (kk : G X g nL (upd2 M k i0 (nI q)) (pc + 1) lv st) : G X g nL M pc lv (.ref (ad g (65 + 31 * q)) :: .int i :: .ref (ad g k) :: st) := by
  obtain ⟨p, l, e, R, s, m, args, below, meth, c0, cells, slots, Q⟩ := X
  obtain ⟨⟨hx, hb, hml, hown, hts⟩, hW, hrf, hrl, hcl, hsl, hgb⟩ := F
  intro H locs ls hP hS hL
  have hkk : k < 231 := kd_lt hk (by decide)
  have hk3 : kd (65 + 31 * q) = 3 := by
    have : ∀ q, q < 5 → kd (65 + 31 * q) = 3 := by decide
    exact this q hq
  have hv : (wWs g M)[65 + 31 * q]? = some (ad g (65 + 31 * q), .inr (3, wF g M (65 + 31 * q) 0 (tpl 3))) := by rw [wWs_at g M (by omega), wE_obj g M hk3 (by decide)]
  subst hi
  refine va_astq (r := (RX3, TX3, 6)) hx hb hW.2.2.1 hP (wWs_D hW M) hS k 4 (65 + 31 * q) 3 (by rw [wWs_at g M hkk, wE_arr g M hk (by decide)]; rfl) rfl hv rfl (vp_in_nI hi5 (by decide)) hd (fun H1 locs1 hP1 hD1 hS1 => ?_)
  rw [nI_clamp (by omega)] at hP1
  rw [wWs_set g hkk (M' := upd2 M k i0 (nI q)) ?_ (fun a ha => wE_row g (upd2_ne M _ _ ha))] at hP1
  · exact kk H1 locs1 ls hP1 hS1 hL
  · rw [wE_arr g _ hk (by decide)]
    have hfun : (fun j => some (ad g (65 + 31 * (upd2 M k i0 (nI q) k j).toNatClampNeg))) = va_up (fun j => some (ad g (65 + 31 * (M k j).toNatClampNeg))) i0 (some (ad g (65 + 31 * q))) := by
      funext j
      rw [upd2_row]
      unfold upd va_up
      by_cases hj : j = i0
      · rw [if_pos hj, if_pos hj, nI_clamp (by omega)]
      · rw [if_neg hj, if_neg hj]
    exact congrArg (fun f : Nat → Option Nat => (Sum.inl (gC g 4, 5, Sum.inr (Sum.inr (Sum.inr (Sum.inr f)))) : va_E)) hfun
def updr (M : Mem) (k : Nat) (r : Nat → Int32) : Mem := fun a => if a = k then r else M a
theorem g_copy4 (F : FX X g cc nL own rf rl) {k0 k1 idx : Nat} (hk0 : kd k0 = 9) (hk1 : kd k1 = 9) (w : Cond.methodLink own idx arraycopyName ∈ lw_ws ∧ Cond.native arraycopyName ∈ lw_ws ∧ Cond.static arraycopyName ∈ lw_ws ∧ Cond.initialized "java/lang/System" ∈ lw_ws) (hfr : 1 ≤ rf) (hrl2 : (st.map fun v => v.category).sum + (nativeFrameWords "java/lang/System" "arraycopy" 5 + 11) ≤ rl) (hd : decode cc pc = .ok (.invokestatic idx, 3)) (kk : G X g nL (updr M k1 (va_cpy (M k0) (M k1) 0 0 4)) (pc + 3) lv st) : G X g nL M pc lv (.int 4 :: .int 0 :: .ref (ad g k1) :: .int 0 :: .ref (ad g k0) :: st) := by
  obtain ⟨p, l, e, R, s, m, args, below, meth, c0, cells, slots, Q⟩ := X
  obtain ⟨⟨hx, hb, hml, hown, hts⟩, hW, hrf, hrl, hcl, hsl, hgb⟩ := F
  intro H locs ls hP hS hL
  have hkk0 : k0 < 231 := kd_lt hk0 (by decide)
  have hkk1 : k1 < 231 := kd_lt hk1 (by decide)
  refine va_copyi (sp := 0) (dp := 0) (n := 4) hx hb (hml.trans hL.1.symm) hown (hts _ w.1) (hts _ w.2.1) (hts _ w.2.2.1) (hts _ w.2.2.2) hW.2.2.1 hP (wWs_D hW M) hS k0 k1 0 0 (by rw [wWs_at g M hkk0, wE_iarr g M hk0 rfl]) (by rw [wWs_at g M hkk1, wE_iarr g M hk1 rfl]) rfl rfl rfl (by decide) (by decide) (by decide) (by decide) (by decide) (fun _ _ => rfl) (by rw [hrf]; exact hfr) (by rw [hrl]; exact hrl2) hd (fun H1 locs1 hP1 hD1 hS1 => ?_)
  rw [wWs_set g hkk1 (M' := updr M k1 (va_cpy (M k0) (M k1) 0 0 4)) ?_ (fun a ha => wE_row g (by simp [updr, ha]))] at hP1
  · exact kk H1 locs1 ls hP1 hS1 hL
  · rw [wE_iarr g _ hk1 rfl]
    simp [updr]
theorem g_d2raw (F : FX X g cc nL own rf rl) {idx : Nat} {b : UInt64} (w : Cond.methodLink own idx ⟨"java/lang/Double", "doubleToRawLongBits", "(D)J"⟩ ∈ lw_ws ∧ Cond.native ⟨"java/lang/Double", "doubleToRawLongBits", "(D)J"⟩ ∈ lw_ws ∧ Cond.static ⟨"java/lang/Double", "doubleToRawLongBits", "(D)J"⟩ ∈ lw_ws ∧ Cond.initialized "java/lang/Double" ∈ lw_ws) (hfr : 1 ≤ rf) (hrl2 : (st.map fun v => v.category).sum + 15 ≤ rl) (hd : decode cc pc = .ok (.invokestatic idx, 3)) (kk : G X g nL M (pc + 3) lv (.long b.toInt64 :: st)) : G X g nL M pc lv (.double b :: st) := by
  obtain ⟨p, l, e, R, s, m, args, below, meth, c0, cells, slots, Q⟩ := X
  obtain ⟨⟨hx, hb, hml, hown, hts⟩, hW, hrf, hrl, hcl, hsl, hgb⟩ := F
  intro H locs ls hP hS hL
  exact vn_d2l hx hb (hml.trans hL.1.symm) hown (hts _ w.1) (hts _ w.2.1) (hts _ w.2.2.1) (hts _ w.2.2.2) (by rw [hrf]; exact hfr) (by rw [hrl]; exact hrl2) hd (kk H locs ls hP hS hL)
end GMEM
/-! contracts and calls -/
def wsM (y : MethodName) (cy : ByteArray) (nL : Nat) (ret : Option FieldType) : List Cond := .code y cy nL ret :: lw_ws
abbrev qM (g : Gm) (post : Option Value → Mem → Prop) : State → Outcome → State → Prop := fun st o t => (∃ (v : Option Value) (M' : Mem), o = .returned v ∧ post v M' ∧ hM g M' t.heap) ∧ va_F (gA g) st t
/-- THE CONTRACT of a method: from the memory M, with the arguments av, it returns v and leaves M', and post v M' holds -/
def Cn (l : Launch) (y : MethodName) (cy : ByteArray) (nL : Nat) (ret : Option FieldType) (rf rl : Nat) (g : Gm) (av : List Value) (M : Mem) (post : Option Value → Mem → Prop) : Prop :=
  Met l y (wsM y cy nL ret) ({ frames := rf, cells := 0, slots := 0, locals := rl }) (va_Pc av (fun U => wOK g U ∧ hM g M U.heap ∧ gB g ≤ U.heap.size)) (fun _ st o t => qM g post st o t) 0 0 (gA g)
theorem ws_good {ws : List Cond} (h : ∀ w ∈ ws, w ∈ lw_ws) : GoodIn lw_ws ws := fun w hw => ⟨h w hw, good_of_word (List.mem_filter.mp (h w hw)).2⟩
theorem nest_kind : ∀ w ∈ nestW, (match w with | .fieldLinkNest .. => true | .methodLinkNest .. => true | _ => false) = true := by decide +kernel
theorem nest_warm {s U : State} (hW : s.WarmedH U.vm) (h : ∀ w ∈ nestW, va_Nw w s) : ∀ w ∈ nestW, va_Nw w U := by
  intro w hw
  have h1 := nest_kind w hw
  have h2 := h w hw
  cases w <;> first | exact va_Nw.warmF hW h2 | exact va_Nw.warmM hW h2 | cases h1
theorem wOK.warm {g : Gm} {s U : State} (hW : s.WarmedH U.vm) (h : wOK g s) : wOK g U := ⟨h.1, h.2.1, va_K.moved hW.alike h.2.2.1, nest_warm hW h.2.2.2⟩
theorem cn_blind {g : Gm} {av : List Value} {M : Mem} : FrameBlind (va_Pc av (fun U => wOK g U ∧ hM g M U.heap ∧ gB g ≤ U.heap.size)) := by
  intro a U fr mk q
  obtain ⟨q0, ⟨q1, q2, q3, q4⟩, q5⟩ := q
  refine ⟨q0, ⟨q1, q2, va_K.moved (u := U) (U := U.calling fr mk a) (Vm.Alike.refl U.vm) q3, fun w hw => ?_⟩, q5⟩
  have h1 := nest_kind w hw
  refine va_Nw.same (u := U) ?_ rfl (q4 w hw)
  cases w <;> first | rfl | cases h1
theorem cn_call {p : Program} {l : Launch} {e : Env} {R : Room} {s : State} {m : MethodId} {args : Array Value} {below : List Frame} {meth : Method} {c : Code} {H : Heap} {locs : List Loc} {cells slots : Nat} {Q : State → Prop} {g : Gm} {pc : Nat} {ls : Array Slot} {rest st0 : List Value} {post : Option Value → Mem → Prop}
    (hr : va_Run p l e R s m args below meth c H locs cells slots 0 0 (F0 m pc ls st0) rest (fun st o t => qM g post st o t) (gA g)) (hS : va_S (gA g) s.heap H locs)
    (kk : ∀ (v : Option Value) (M' : Mem), post v M' → ∀ (H1 : Heap) (locs1 : List Loc), hM g M' H1 → va_S (gA g) s.heap H1 locs1 → W p l e R s m args below meth c H1 locs1 cells slots Q (F0 m (pc + 3) ls (v.toList ++ rest))) : W p l e R s m args below meth c H locs cells slots Q (F0 m pc ls st0) := by
  intro T hT X
  obtain ⟨v, st₀, t, T', L, h0, X', hL, e1, e2, ⟨⟨v', M', hv, hp, hM'⟩, hz, hk⟩, st⟩ := hr T hT X
  cases hv
  rw [h0] at hz hk
  obtain ⟨t2, a1, b1⟩ := kk v M' hp T'.heap (locs ++ L) (by rw [e1]; exact hM')
    ⟨Nat.le_trans hS.1 (by rw [e1]; exact hz), fun q h1 h2 => by rw [e1, hk q (Nat.lt_of_lt_of_le h1 hS.1) h2]; exact hS.2.1 q h1 h2, fun q hq => by
      rcases List.mem_append.mp hq with h | h
      · exact hS.2.2 q h
      · exact hL q h⟩ T' rfl X'
  exact ⟨t2, st t2 a1, b1⟩
abbrev okName (y : MethodName) (n : Nat) : Prop := y.cls ≠ "java/lang/invoke/MethodHandle" ∧ y.cls ≠ "java/lang/invoke/VarHandle" ∧ (parseMethodDescriptor y.desc).map (fun d => d.parameters.length) = some n
/-- a call's words: virtual, static, of a constructor; static and of a constructor between nest mates -/
def CV (own : String) (idx : Nat) (C : String) (y : MethodName) (cy : ByteArray) (nLy : Nat) (ret : Option FieldType) (n : Nat) : Prop := Cond.methodLink own idx y ∈ lw_ws ∧ Cond.instanceMethod y ∈ lw_ws ∧ Cond.selects C y y ∈ lw_ws ∧ Cond.initialized C ∈ lw_ws ∧ Cond.code y cy nLy ret ∈ lw_ws ∧ y.cls = C ∧ okName y n
def CS (own : String) (idx : Nat) (y : MethodName) (cy : ByteArray) (nLy : Nat) (ret : Option FieldType) (n : Nat) : Prop := Cond.methodLink own idx y ∈ lw_ws ∧ Cond.static y ∈ lw_ws ∧ Cond.initialized y.cls ∈ lw_ws ∧ Cond.code y cy nLy ret ∈ lw_ws ∧ okName y n
def CSN (own : String) (idx : Nat) (y : MethodName) (cy : ByteArray) (nLy : Nat) (ret : Option FieldType) (n : Nat) : Prop := Cond.methodLinkNest own idx y "RenewalClocks" ∈ nestW ∧ Cond.static y ∈ lw_ws ∧ Cond.initialized y.cls ∈ lw_ws ∧ Cond.code y cy nLy ret ∈ lw_ws ∧ okName y n
theorem wsM_in {y : MethodName} {cy : ByteArray} {nLy : Nat} {ret : Option FieldType} (h : Cond.code y cy nLy ret ∈ lw_ws) : ∀ w ∈ wsM y cy nLy ret, w ∈ lw_ws := fun w hw => (List.mem_cons.mp hw).elim (fun e => e ▸ h) id
section GCALL
variable {X : XT} {g : Gm} {cc : ByteArray} {nL : Nat} {own : String} {rf rl : Nat} {M : Mem} {pc : Nat} {lv : List (Option Value)} {st : List Value}
variable {y : MethodName} {cy : ByteArray} {nLy rf2 rl2 n idx : Nat} {ret : Option FieldType} {post : Option Value → Mem → Prop} {As rest : List Value}
theorem g_callV (F : FX X g cc nL own rf rl) {k ci : Nat} {C : String} {T : u_T} {N : Nat} (w : CV own idx C y cy nLy ret n) (hk : kd k = ci) (hC : vwCl[ci]? = some (C, T, N)) (hc9 : ci < 9) (hn : As.length = n) (hst : st = As.reverse ++ .ref (ad g k) :: rest) (hcat : (rest.map fun v => v.category).sum ≤ 8) (hR : rf2 + 1 ≤ rf ∧ 8 + (nLy + 11) + rl2 ≤ rl) (hd : decode cc pc = .ok (.invokevirtual idx, 3))
    (hM2 : Cn X.2.1 y cy nLy ret rf2 rl2 g (.ref (ad g k) :: As) M post) (kk : ∀ (v : Option Value) (M' : Mem), post v M' → G X g nL M' (pc + 3) lv (v.toList ++ rest)) : G X g nL M pc lv st := by
  obtain ⟨p, l, e, R, s, m, args, below, meth, c, cells, slots, Q⟩ := X
  obtain ⟨⟨hx, hb, hml, hown, hts⟩, hW, hrf, hrl, hcl, hsl, hgb⟩ := F
  intro H locs ls hP hS hL
  obtain ⟨w1, w2, w3, w4, w5, w6, w7⟩ := w
  have hkk : k < 231 := kd_lt hk (by omega)
  have he : (wWs g M)[k]? = some (ad g k, .inr (ci, wF g M k 0 (tpl ci))) := by rw [wWs_at g M hkk, wE_obj g M hk hc9]
  refine cn_call (va_runV (C := C) (ws := wsM y cy nLy ret) (rm := { frames := rf2, cells := 0, slots := 0, locals := rl2 }) (As := As) (rest := rest) ⟨hx, hb, hml, hown, hts⟩ hM2 (cwV n hts (ws_good (fun x hx => ?_)) rfl rfl rfl ⟨w6, w7⟩ ?_) ⟨cn_blind, va_recv hW.2.2.1 hP (q0 := k) hC he, fun U hU hWU => ⟨rfl, hW.warm hWU, by rw [hU]; exact hP, by rw [hU]; exact Nat.le_trans hgb hS.1⟩⟩ rfl hn hL.1 hst (lv_room hcat) hd ⟨hcl, hsl⟩) hS (fun v M' hp H1 locs1 hP1 hS1 => kk v M' hp H1 locs1 ls hP1 hS1 hL)
  · rcases List.mem_append.mp hx with h | h
    · simp only [List.mem_cons, List.not_mem_nil, or_false] at h
      rcases h with rfl | rfl | rfl | rfl
      · exact w1
      · exact w2
      · exact w3
      · exact w4
    · exact wsM_in w5 x h
  · rw [hrf, hrl]; exact hR
theorem g_callS (F : FX X g cc nL own rf rl) (w : CS own idx y cy nLy ret n) (hn : As.length = n) (hst : st = As.reverse ++ rest) (hcat : (rest.map fun v => v.category).sum ≤ 8) (hR : rf2 + 1 ≤ rf ∧ 8 + (nLy + 11) + rl2 ≤ rl) (hd : decode cc pc = .ok (.invokestatic idx, 3))
    (hM2 : Cn X.2.1 y cy nLy ret rf2 rl2 g As M post) (kk : ∀ (v : Option Value) (M' : Mem), post v M' → G X g nL M' (pc + 3) lv (v.toList ++ rest)) : G X g nL M pc lv st := by
  obtain ⟨p, l, e, R, s, m, args, below, meth, c, cells, slots, Q⟩ := X
  obtain ⟨⟨hx, hb, hml, hown, hts⟩, hW, hrf, hrl, hcl, hsl, hgb⟩ := F
  intro H locs ls hP hS hL
  obtain ⟨w1, w2, w4, w5, w7⟩ := w
  refine cn_call (va_runS (ws := wsM y cy nLy ret) (rm := { frames := rf2, cells := 0, slots := 0, locals := rl2 }) (As := As) (rest := rest) ⟨hx, hb, hml, hown, hts⟩ hM2 (va_cwS n hts (ws_good (fun x hx => ?_)) rfl rfl rfl w7 ?_) ⟨cn_blind, fun U hU hWU => ⟨rfl, hW.warm hWU, by rw [hU]; exact hP, by rw [hU]; exact Nat.le_trans hgb hS.1⟩⟩ rfl hn hL.1 hst (lv_room hcat) hd ⟨hcl, hsl⟩) hS (fun v M' hp H1 locs1 hP1 hS1 => kk v M' hp H1 locs1 ls hP1 hS1 hL)
  · rcases List.mem_append.mp hx with h | h
    · simp only [List.mem_cons, List.not_mem_nil, or_false] at h
      rcases h with rfl | rfl | rfl
      · exact w1
      · exact w2
      · exact w4
    · exact wsM_in w5 x h
  · rw [hrf, hrl]; exact hR
theorem g_callSN (F : FX X g cc nL own rf rl) (w : CSN own idx y cy nLy ret n) (hn : As.length = n) (hst : st = As.reverse ++ rest) (hcat : (rest.map fun v => v.category).sum ≤ 8) (hR : rf2 + 1 ≤ rf ∧ 8 + (nLy + 11) + rl2 ≤ rl) (hd : decode cc pc = .ok (.invokestatic idx, 3))
    (hM2 : Cn X.2.1 y cy nLy ret rf2 rl2 g As M post) (kk : ∀ (v : Option Value) (M' : Mem), post v M' → G X g nL M' (pc + 3) lv (v.toList ++ rest)) : G X g nL M pc lv st := by
  obtain ⟨p, l, e, R, s, m, args, below, meth, c, cells, slots, Q⟩ := X
  obtain ⟨⟨hx, hb, hml, hown, hts⟩, hW, hrf, hrl, hcl, hsl, hgb⟩ := F
  intro H locs ls hP hS hL
  obtain ⟨w1, w2, w4, w5, w7⟩ := w
  refine cn_call (va_runSN (host := "RenewalClocks") (ws := wsM y cy nLy ret) (rm := { frames := rf2, cells := 0, slots := 0, locals := rl2 }) (As := As) (rest := rest) ⟨hx, hb, hml, hown, hts⟩ hM2 ⟨va_cnB n hts (ws_good (wsM_in w5)) rfl rfl rfl (hW.2.2.2 _ w1) (hts _ w4) w7 ?_, hts _ w2, trivial⟩ ⟨cn_blind, fun U hU hWU => ⟨rfl, hW.warm hWU, by rw [hU]; exact hP, by rw [hU]; exact Nat.le_trans hgb hS.1⟩⟩ rfl hn hL.1 hst (lv_room hcat) hd ⟨hcl, hsl⟩) hS (fun v M' hp H1 locs1 hP1 hS1 => kk v M' hp H1 locs1 ls hP1 hS1 hL)
  rw [hrf, hrl]; exact hR
end GCALL
/-! ends -/
def RX (X : XT) (g : Gm) (ret : Option FieldType) (post : Option Value → Mem → Prop) : Prop := match X with
  | (_, _, _, _, s, _, args, below, meth, _, cells, slots, Q) => meth.sig.returnType = ret ∧ meth.locks = false ∧ cells = 0 ∧ slots = 0 ∧ Q = MQ below (fun _ st o t => qM g post st o t) args s 0 0 (gA g)
section GRET
variable {X : XT} {g : Gm} {cc : ByteArray} {nL : Nat} {own : String} {rf rl : Nat} {M : Mem} {pc : Nat} {lv : List (Option Value)} {post : Option Value → Mem → Prop}

theorem g_iret (F : FX X g cc nL own rf rl) {v : Int32} (r : RX X g (some .int) post) (hd : decode cc pc = .ok (.ireturn, 1)) (h : post (some (.int v)) M) : G X g nL M pc lv [.int v] := by
  obtain ⟨p, l, e, R, s, m, args, below, meth, c, cells, slots, Q⟩ := X
  obtain ⟨⟨hx, hb, hml, hown, hts⟩, hW, hrf, hrl, hcl, hsl, hgb⟩ := F
  intro H locs ls hP hS hL
  obtain ⟨hr, hlk, rfl, rfl, rfl⟩ := r
  exact W.iret hx hb hr (fun t ht hWt => ⟨⟨_, M, rfl, h, by rw [ht]; exact hP⟩, hS.F ht⟩) hS.2.2 hd hlk
theorem g_zret (F : FX X g cc nL own rf rl) {v : Int32} {ty : FieldType} (hn : narrow ty (.int v) = .int v) (r : RX X g (some ty) post) (hd : decode cc pc = .ok (.ireturn, 1)) (h : post (some (.int v)) M) : G X g nL M pc lv [.int v] := by
  obtain ⟨p, l, e, R, s, m, args, below, meth, c, cells, slots, Q⟩ := X
  obtain ⟨⟨hx, hb, hml, hown, hts⟩, hW, hrf, hrl, hcl, hsl, hgb⟩ := F
  intro H locs ls hP hS hL
  obtain ⟨hr, hlk, rfl, rfl, rfl⟩ := r
  exact W.zret hx hb hr hn (fun t ht hWt => ⟨⟨_, M, rfl, h, by rw [ht]; exact hP⟩, hS.F ht⟩) hS.2.2 hd hlk
theorem g_vret (F : FX X g cc nL own rf rl)  (r : RX X g (none) post) (hd : decode cc pc = .ok (.return_, 1)) (h : post none M) : G X g nL M pc lv [] := by
  obtain ⟨p, l, e, R, s, m, args, below, meth, c, cells, slots, Q⟩ := X
  obtain ⟨⟨hx, hb, hml, hown, hts⟩, hW, hrf, hrl, hcl, hsl, hgb⟩ := F
  intro H locs ls hP hS hL
  obtain ⟨hr, hlk, rfl, rfl, rfl⟩ := r
  exact W.vret hx hb hr (fun t ht hWt => ⟨⟨_, M, rfl, h, by rw [ht]; exact hP⟩, hS.F ht⟩) hS.2.2 hd hlk
theorem g_lret (F : FX X g cc nL own rf rl) {v : Int64} (r : RX X g (some .long) post) (hd : decode cc pc = .ok (.lreturn, 1)) (h : post (some (.long v)) M) : G X g nL M pc lv [.long v] := by
  obtain ⟨p, l, e, R, s, m, args, below, meth, c, cells, slots, Q⟩ := X
  obtain ⟨⟨hx, hb, hml, hown, hts⟩, hW, hrf, hrl, hcl, hsl, hgb⟩ := F
  intro H locs ls hP hS hL
  obtain ⟨hr, hlk, rfl, rfl, rfl⟩ := r
  exact W.lret hx hb hr (fun t ht hWt => ⟨⟨_, M, rfl, h, by rw [ht]; exact hP⟩, hS.F ht⟩) hS.2.2 hd hlk
theorem g_dret (F : FX X g cc nL own rf rl) {v : UInt64} (r : RX X g (some .double) post) (hd : decode cc pc = .ok (.dreturn, 1)) (h : post (some (.double v)) M) : G X g nL M pc lv [.double v] := by
  obtain ⟨p, l, e, R, s, m, args, below, meth, c, cells, slots, Q⟩ := X
  obtain ⟨⟨hx, hb, hml, hown, hts⟩, hW, hrf, hrl, hcl, hsl, hgb⟩ := F
  intro H locs ls hP hS hL
  obtain ⟨hr, hlk, rfl, rfl, rfl⟩ := r
  exact W.dret hx hb hr (fun t ht hWt => ⟨⟨_, M, rfl, h, by rw [ht]; exact hP⟩, hS.F ht⟩) hS.2.2 hd hlk
theorem g_aret (F : FX X g cc nL own rf rl) {v : Nat} {C : String} (r : RX X g (some (.object C)) post) (hd : decode cc pc = .ok (.areturn, 1)) (h : post (some (.ref v)) M) : G X g nL M pc lv [.ref v] := by
  obtain ⟨p, l, e, R, s, m, args, below, meth, c, cells, slots, Q⟩ := X
  obtain ⟨⟨hx, hb, hml, hown, hts⟩, hW, hrf, hrl, hcl, hsl, hgb⟩ := F
  intro H locs ls hP hS hL
  obtain ⟨hr, hlk, rfl, rfl, rfl⟩ := r
  exact W.aret hx hb hr (Or.inl ⟨C, rfl⟩) (Or.inr ⟨v, rfl⟩) (fun t ht hWt => ⟨⟨_, M, rfl, h, by rw [ht]; exact hP⟩, hS.F ht⟩) hS.2.2 hd hlk
theorem g_aretN (F : FX X g cc nL own rf rl) {C : String} (r : RX X g (some (.object C)) post) (hd : decode cc pc = .ok (.areturn, 1)) (h : post (some .null) M) : G X g nL M pc lv [.null] := by
  obtain ⟨p, l, e, R, s, m, args, below, meth, c, cells, slots, Q⟩ := X
  obtain ⟨⟨hx, hb, hml, hown, hts⟩, hW, hrf, hrl, hcl, hsl, hgb⟩ := F
  intro H locs ls hP hS hL
  obtain ⟨hr, hlk, rfl, rfl, rfl⟩ := r
  exact W.aret hx hb hr (Or.inl ⟨C, rfl⟩) (Or.inl rfl) (fun t ht hWt => ⟨⟨_, M, rfl, h, by rw [ht]; exact hP⟩, hS.F ht⟩) hS.2.2 hd hlk
end GRET
def lvE : List Value → List (Option Value)
  | [] => []
  | v :: vs => if v.category = 2 then some v :: none :: lvE vs else some v :: lvE vs
theorem lvE_sound (kp : Nat) : ∀ (av : List Value) (j0 i : Nat) (v : Value), lg (lvE av ++ List.replicate kp none) i = some v → (j0 + i, v) ∈ lv_args j0 av := by
  intro av
  induction av with
  | nil =>
    intro j0 i v h
    exfalso
    have : ∀ (n i : Nat), lg (List.replicate n none) i = none := by
      intro n
      induction n with
      | zero => intro i; rfl
      | succ n ih => intro i; cases i with
        | zero => rfl
        | succ i => exact ih i
    simp [lvE, this] at h
  | cons a av ih =>
    intro j0 i v h
    unfold lvE at h
    by_cases hc : a.category = 2
    · rw [if_pos hc] at h
      unfold lv_args
      rw [if_pos hc]
      match i, h with
      | 0, h => simp [lg] at h; subst h; exact List.mem_cons_self
      | 1, h => simp [lg] at h
      | i + 2, h =>
        have := ih (j0 + 2) i v (by simpa [lg] using h)
        rw [show j0 + (i + 2) = j0 + 2 + i by omega]
        exact List.mem_cons_of_mem _ this
    · rw [if_neg hc] at h
      unfold lv_args
      rw [if_neg hc]
      match i, h with
      | 0, h => simp [lg] at h; subst h; exact List.mem_cons_self
      | i + 1, h =>
        have := ih (j0 + 1) i v (by simpa [lg] using h)
        rw [show j0 + (i + 1) = j0 + 1 + i by omega]
        exact List.mem_cons_of_mem _ this
/-- a contract out of a walk from pc 0 -/
theorem Cn.intro {l : Launch} {y : MethodName} {cy : ByteArray} {nL : Nat} {ret : Option FieldType} {rf rl : Nat} {g : Gm} {av : List Value} {M : Mem} {post : Option Value → Mem → Prop} {lv0 : List (Option Value)} (kp : Nat) (hy : plainName y.cls = true) (hlen : (lg_sl av).length ≤ nL) (hlv : lvE av ++ List.replicate kp none = lv0)
    (body : ∀ X : XT, FX X g cy nL y.cls rf rl → RX X g ret post → G X g nL M 0 lv0 []) : Cn l y cy nL ret rf rl g av M post := by
  refine Met.ofW (ws := wsM y cy nL ret) (ws' := lw_ws) (cc := cy) (maxL := nL) (ret := ret) hy rfl ?_
  intro p e s m args below meth c s₁ B hml hv
  obtain ⟨rfl, hW, hP, hgb⟩ := hv
  have hts := atoms_spec (ws := wsM y cy nL ret) B.pre
  have hl := lv_entry av (n := nL) hlen
  rw [lg_entry_eq]
  refine body (p, l, e, _, s, m, av.toArray, below, meth, c, 0, 0, _) ⟨⟨B.exec, B.bytes, hml, findClass_of_methodNamed B.named, fun w hw => hts w (List.mem_cons_of_mem _ hw)⟩, hW, rfl, rfl, Nat.zero_le _, Nat.zero_le _, hgb⟩ ⟨B.returns, B.notSynchronized, rfl, rfl, rfl⟩ s.heap [] _ hP va_S.rf (lhas.of hl (fun i v hi => ?_))
  rw [← hlv] at hi
  have := lvE_sound kp av 0 i v hi
  rwa [Nat.zero_add] at this
/-- a weaker post -/
theorem Cn.weaken {l : Launch} {y : MethodName} {cy : ByteArray} {nL : Nat} {ret : Option FieldType} {rf rl : Nat} {g : Gm} {av : List Value} {M : Mem} {p1 p2 : Option Value → Mem → Prop} (h : ∀ v M', p1 v M' → p2 v M') (hc : Cn l y cy nL ret rf rl g av M p1) : Cn l y cy nL ret rf rl g av M p2 := by
  intro p e ha hc1 hk s m args below hf happ hp ht
  obtain ⟨k, o, h1, h2, h3, ⟨⟨⟨v, M', q1, q2, q3⟩, q4⟩, L, h5⟩⟩ := hc p e ha hc1 hk s m args below hf happ hp ht
  exact ⟨k, o, h1, h2, h3, ⟨⟨⟨v, M', q1, h v M' q2, q3⟩, q4⟩, L, h5⟩⟩
end
section
/-! bundles of words: a field's link, a call's link (by the class that links and the number in its pool) -/
theorem fl_X7_102 : FL RX7 102 1 0 false .int := ⟨RX1, TX1, 5, tyX1, rfl, by decide, uin_X1, by decide, tyX1_ok, nmX1, Or.inr wf_X7_102, rfl, rfl⟩
theorem fl_X7_112 : FL RX7 112 2 0 false .int := ⟨RX2, TX2, 4, tyX2, rfl, by decide, uin_X2, by decide, tyX2_ok, nmX2, Or.inr wf_X7_112, rfl, rfl⟩
theorem fl_X7_117 : FL RX7 117 2 1 false .int := ⟨RX2, TX2, 4, tyX2, rfl, by decide, uin_X2, by decide, tyX2_ok, nmX2, Or.inr wf_X7_117, rfl, rfl⟩
theorem fl_X7_12 : FL RX7 12 7 0 true (.object "RenewalClocks$Hall") := ⟨RX7, TX7, 5, tyX7, rfl, by decide, uin_X7, by decide, tyX7_ok, nmX7, Or.inl wf_X7_12, rfl, rfl⟩
theorem fl_X7_123 : FL RX7 123 2 2 false .int := ⟨RX2, TX2, 4, tyX2, rfl, by decide, uin_X2, by decide, tyX2_ok, nmX2, Or.inr wf_X7_123, rfl, rfl⟩
theorem fl_X7_125 : FL RX7 125 2 3 false .int := ⟨RX2, TX2, 4, tyX2, rfl, by decide, uin_X2, by decide, tyX2_ok, nmX2, Or.inr wf_X7_125, rfl, rfl⟩
theorem fl_X7_144 : FL RX7 144 0 4 false .int := ⟨RX0, TX0, 10, tyX0, rfl, by decide, uin_X0, by decide, tyX0_ok, nmX0, Or.inr wf_X7_144, rfl, rfl⟩
theorem fl_X7_147 : FL RX7 147 0 3 false .int := ⟨RX0, TX0, 10, tyX0, rfl, by decide, uin_X0, by decide, tyX0_ok, nmX0, Or.inr wf_X7_147, rfl, rfl⟩
theorem fl_X7_155 : FL RX7 155 3 1 false .int := ⟨RX3, TX3, 6, tyX3, rfl, by decide, uin_X3, by decide, tyX3_ok, nmX3, Or.inr wf_X7_155, rfl, rfl⟩
theorem fl_X7_158 : FL RX7 158 3 3 false .int := ⟨RX3, TX3, 6, tyX3, rfl, by decide, uin_X3, by decide, tyX3_ok, nmX3, Or.inr wf_X7_158, rfl, rfl⟩
theorem fl_X7_16 : FL RX7 16 7 1 true (.object "RenewalClocks$Hall") := ⟨RX7, TX7, 5, tyX7, rfl, by decide, uin_X7, by decide, tyX7_ok, nmX7, Or.inl wf_X7_16, rfl, rfl⟩
theorem fl_X7_161 : FL RX7 161 3 4 false .int := ⟨RX3, TX3, 6, tyX3, rfl, by decide, uin_X3, by decide, tyX3_ok, nmX3, Or.inr wf_X7_161, rfl, rfl⟩
theorem fl_X7_164 : FL RX7 164 3 5 false .int := ⟨RX3, TX3, 6, tyX3, rfl, by decide, uin_X3, by decide, tyX3_ok, nmX3, Or.inr wf_X7_164, rfl, rfl⟩
theorem fl_X7_173 : FL RX7 173 4 1 false .int := ⟨RX4, TX4, 2, tyX4, rfl, by decide, uin_X4, by decide, tyX4_ok, nmX4, Or.inr wf_X7_173, rfl, rfl⟩
theorem fl_X7_176 : FL RX7 176 6 1 false .int := ⟨RX6, TX6, 2, tyX6, rfl, by decide, uin_X6, by decide, tyX6_ok, nmX6, Or.inr wf_X7_176, rfl, rfl⟩
theorem fl_X7_193 : FL RX7 193 5 5 false .int := ⟨RX5, TX5, 7, tyX5, rfl, by decide, uin_X5, by decide, tyX5_ok, nmX5, Or.inr wf_X7_193, rfl, rfl⟩
theorem fl_X7_196 : FL RX7 196 5 2 false .int := ⟨RX5, TX5, 7, tyX5, rfl, by decide, uin_X5, by decide, tyX5_ok, nmX5, Or.inr wf_X7_196, rfl, rfl⟩
theorem fl_X7_199 : FL RX7 199 5 6 false .int := ⟨RX5, TX5, 7, tyX5, rfl, by decide, uin_X5, by decide, tyX5_ok, nmX5, Or.inr wf_X7_199, rfl, rfl⟩
theorem fl_X7_202 : FL RX7 202 5 4 false .int := ⟨RX5, TX5, 7, tyX5, rfl, by decide, uin_X5, by decide, tyX5_ok, nmX5, Or.inr wf_X7_202, rfl, rfl⟩
theorem fl_X7_22 : FL RX7 22 7 2 true (.object "RenewalClocks$History") := ⟨RX7, TX7, 5, tyX7, rfl, by decide, uin_X7, by decide, tyX7_ok, nmX7, Or.inl wf_X7_22, rfl, rfl⟩
theorem fl_X7_29 : FL RX7 29 7 3 true (.object "RenewalClocks$Text") := ⟨RX7, TX7, 5, tyX7, rfl, by decide, uin_X7, by decide, tyX7_ok, nmX7, Or.inl wf_X7_29, rfl, rfl⟩
theorem fl_X7_38 : FL RX7 38 7 4 true (.object "RenewalClocks$Orders") := ⟨RX7, TX7, 5, tyX7, rfl, by decide, uin_X7, by decide, tyX7_ok, nmX7, Or.inl wf_X7_38, rfl, rfl⟩
theorem fl_X7_85 : FL RX7 85 0 9 true (.object "RenewalClocks$Gaps") := ⟨RX0, TX0, 10, tyX0, rfl, by decide, uin_X0, by decide, tyX0_ok, nmX0, Or.inr wf_X7_85, rfl, rfl⟩
theorem fl_X7_99 : FL RX7 99 0 8 true (.object "RenewalClocks$Gaps") := ⟨RX0, TX0, 10, tyX0, rfl, by decide, uin_X0, by decide, tyX0_ok, nmX0, Or.inr wf_X7_99, rfl, rfl⟩
theorem fl_X0_18 : FL RX0 18 0 8 true (.object "RenewalClocks$Gaps") := ⟨RX0, TX0, 10, tyX0, rfl, by decide, uin_X0, by decide, tyX0_ok, nmX0, Or.inl wf_X0_18, rfl, rfl⟩
theorem fl_X0_22 : FL RX0 22 0 9 true (.object "RenewalClocks$Gaps") := ⟨RX0, TX0, 10, tyX0, rfl, by decide, uin_X0, by decide, tyX0_ok, nmX0, Or.inl wf_X0_22, rfl, rfl⟩
theorem fl_X0_25 : FL RX0 25 0 0 false .int := ⟨RX0, TX0, 10, tyX0, rfl, by decide, uin_X0, by decide, tyX0_ok, nmX0, Or.inl wf_X0_25, rfl, rfl⟩
theorem fl_X0_29 : FL RX0 29 0 2 false .int := ⟨RX0, TX0, 10, tyX0, rfl, by decide, uin_X0, by decide, tyX0_ok, nmX0, Or.inl wf_X0_29, rfl, rfl⟩
theorem fl_X0_32 : FL RX0 32 0 3 false .int := ⟨RX0, TX0, 10, tyX0, rfl, by decide, uin_X0, by decide, tyX0_ok, nmX0, Or.inl wf_X0_32, rfl, rfl⟩
theorem fl_X0_35 : FL RX0 35 0 4 false .int := ⟨RX0, TX0, 10, tyX0, rfl, by decide, uin_X0, by decide, tyX0_ok, nmX0, Or.inl wf_X0_35, rfl, rfl⟩
theorem fl_X0_38 : FL RX0 38 0 5 false .int := ⟨RX0, TX0, 10, tyX0, rfl, by decide, uin_X0, by decide, tyX0_ok, nmX0, Or.inl wf_X0_38, rfl, rfl⟩
theorem fl_X0_41 : FL RX0 41 0 6 false .int := ⟨RX0, TX0, 10, tyX0, rfl, by decide, uin_X0, by decide, tyX0_ok, nmX0, Or.inl wf_X0_41, rfl, rfl⟩
theorem fl_X0_44 : FL RX0 44 0 7 false .int := ⟨RX0, TX0, 10, tyX0, rfl, by decide, uin_X0, by decide, tyX0_ok, nmX0, Or.inl wf_X0_44, rfl, rfl⟩
theorem fl_X0_67 : FL RX0 67 1 0 false .int := ⟨RX1, TX1, 5, tyX1, rfl, by decide, uin_X1, by decide, tyX1_ok, nmX1, Or.inr wf_X0_67, rfl, rfl⟩
theorem fl_X0_74 : FL RX0 74 1 1 false .int := ⟨RX1, TX1, 5, tyX1, rfl, by decide, uin_X1, by decide, tyX1_ok, nmX1, Or.inr wf_X0_74, rfl, rfl⟩
theorem fl_X0_78 : FL RX0 78 1 4 false .int := ⟨RX1, TX1, 5, tyX1, rfl, by decide, uin_X1, by decide, tyX1_ok, nmX1, Or.inr wf_X0_78, rfl, rfl⟩
theorem fl_X0_9 : FL RX0 9 0 1 true (.array .int) := ⟨RX0, TX0, 10, tyX0, rfl, by decide, uin_X0, by decide, tyX0_ok, nmX0, Or.inl wf_X0_9, rfl, rfl⟩
theorem fl_X1_13 : FL RX1 13 1 1 false .int := ⟨RX1, TX1, 5, tyX1, rfl, by decide, uin_X1, by decide, tyX1_ok, nmX1, Or.inl wf_X1_13, rfl, rfl⟩
theorem fl_X1_16 : FL RX1 16 1 2 false .int := ⟨RX1, TX1, 5, tyX1, rfl, by decide, uin_X1, by decide, tyX1_ok, nmX1, Or.inl wf_X1_16, rfl, rfl⟩
theorem fl_X1_19 : FL RX1 19 1 3 false .int := ⟨RX1, TX1, 5, tyX1, rfl, by decide, uin_X1, by decide, tyX1_ok, nmX1, Or.inl wf_X1_19, rfl, rfl⟩
theorem fl_X1_22 : FL RX1 22 1 4 false .int := ⟨RX1, TX1, 5, tyX1, rfl, by decide, uin_X1, by decide, tyX1_ok, nmX1, Or.inl wf_X1_22, rfl, rfl⟩
theorem fl_X1_7 : FL RX1 7 1 0 false .int := ⟨RX1, TX1, 5, tyX1, rfl, by decide, uin_X1, by decide, tyX1_ok, nmX1, Or.inl wf_X1_7, rfl, rfl⟩
theorem fl_X2_13 : FL RX2 13 2 1 false .int := ⟨RX2, TX2, 4, tyX2, rfl, by decide, uin_X2, by decide, tyX2_ok, nmX2, Or.inl wf_X2_13, rfl, rfl⟩
theorem fl_X2_16 : FL RX2 16 2 2 false .int := ⟨RX2, TX2, 4, tyX2, rfl, by decide, uin_X2, by decide, tyX2_ok, nmX2, Or.inl wf_X2_16, rfl, rfl⟩
theorem fl_X2_19 : FL RX2 19 2 3 false .int := ⟨RX2, TX2, 4, tyX2, rfl, by decide, uin_X2, by decide, tyX2_ok, nmX2, Or.inl wf_X2_19, rfl, rfl⟩
theorem fl_X2_7 : FL RX2 7 2 0 false .int := ⟨RX2, TX2, 4, tyX2, rfl, by decide, uin_X2, by decide, tyX2_ok, nmX2, Or.inl wf_X2_7, rfl, rfl⟩
theorem fl_X3_107 : FL RX3 107 0 5 false .int := ⟨RX0, TX0, 10, tyX0, rfl, by decide, uin_X0, by decide, tyX0_ok, nmX0, Or.inr wf_X3_107, rfl, rfl⟩
theorem fl_X3_11 : FL RX3 11 3 0 true (.array (.object "RenewalClocks$Clock")) := ⟨RX3, TX3, 6, tyX3, rfl, by decide, uin_X3, by decide, tyX3_ok, nmX3, Or.inl wf_X3_11, rfl, rfl⟩
theorem fl_X3_110 : FL RX3 110 0 6 false .int := ⟨RX0, TX0, 10, tyX0, rfl, by decide, uin_X0, by decide, tyX0_ok, nmX0, Or.inr wf_X3_110, rfl, rfl⟩
theorem fl_X3_113 : FL RX3 113 0 4 false .int := ⟨RX0, TX0, 10, tyX0, rfl, by decide, uin_X0, by decide, tyX0_ok, nmX0, Or.inr wf_X3_113, rfl, rfl⟩
theorem fl_X3_126 : FL RX3 126 2 0 false .int := ⟨RX2, TX2, 4, tyX2, rfl, by decide, uin_X2, by decide, tyX2_ok, nmX2, Or.inr wf_X3_126, rfl, rfl⟩
theorem fl_X3_134 : FL RX3 134 2 1 false .int := ⟨RX2, TX2, 4, tyX2, rfl, by decide, uin_X2, by decide, tyX2_ok, nmX2, Or.inr wf_X3_134, rfl, rfl⟩
theorem fl_X3_19 : FL RX3 19 3 2 true (.array (.object "RenewalClocks$Group")) := ⟨RX3, TX3, 6, tyX3, rfl, by decide, uin_X3, by decide, tyX3_ok, nmX3, Or.inl wf_X3_19, rfl, rfl⟩
theorem fl_X3_23 : FL RX3 23 3 5 false .int := ⟨RX3, TX3, 6, tyX3, rfl, by decide, uin_X3, by decide, tyX3_ok, nmX3, Or.inl wf_X3_23, rfl, rfl⟩
theorem fl_X3_29 : FL RX3 29 3 1 false .int := ⟨RX3, TX3, 6, tyX3, rfl, by decide, uin_X3, by decide, tyX3_ok, nmX3, Or.inl wf_X3_29, rfl, rfl⟩
theorem fl_X3_36 : FL RX3 36 3 3 false .int := ⟨RX3, TX3, 6, tyX3, rfl, by decide, uin_X3, by decide, tyX3_ok, nmX3, Or.inl wf_X3_36, rfl, rfl⟩
theorem fl_X3_42 : FL RX3 42 3 4 false .int := ⟨RX3, TX3, 6, tyX3, rfl, by decide, uin_X3, by decide, tyX3_ok, nmX3, Or.inl wf_X3_42, rfl, rfl⟩
theorem fl_X3_62 : FL RX3 62 0 7 false .int := ⟨RX0, TX0, 10, tyX0, rfl, by decide, uin_X0, by decide, tyX0_ok, nmX0, Or.inr wf_X3_62, rfl, rfl⟩
theorem fl_X3_65 : FL RX3 65 0 3 false .int := ⟨RX0, TX0, 10, tyX0, rfl, by decide, uin_X0, by decide, tyX0_ok, nmX0, Or.inr wf_X3_65, rfl, rfl⟩
theorem fl_X3_68 : FL RX3 68 0 0 false .int := ⟨RX0, TX0, 10, tyX0, rfl, by decide, uin_X0, by decide, tyX0_ok, nmX0, Or.inr wf_X3_68, rfl, rfl⟩
theorem fl_X3_71 : FL RX3 71 0 9 true (.object "RenewalClocks$Gaps") := ⟨RX0, TX0, 10, tyX0, rfl, by decide, uin_X0, by decide, tyX0_ok, nmX0, Or.inr wf_X3_71, rfl, rfl⟩
theorem fl_X3_75 : FL RX3 75 1 0 false .int := ⟨RX1, TX1, 5, tyX1, rfl, by decide, uin_X1, by decide, tyX1_ok, nmX1, Or.inr wf_X3_75, rfl, rfl⟩
theorem fl_X4_11 : FL RX4 11 4 0 true (.array (.object "RenewalClocks$Hall")) := ⟨RX4, TX4, 2, tyX4, rfl, by decide, uin_X4, by decide, tyX4_ok, nmX4, Or.inl wf_X4_11, rfl, rfl⟩
theorem fl_X4_18 : FL RX4 18 4 1 false .int := ⟨RX4, TX4, 2, tyX4, rfl, by decide, uin_X4, by decide, tyX4_ok, nmX4, Or.inl wf_X4_18, rfl, rfl⟩
theorem fl_X5_15 : FL RX5 15 5 0 true (.object "RenewalClocks$Text") := ⟨RX5, TX5, 7, tyX5, rfl, by decide, uin_X5, by decide, tyX5_ok, nmX5, Or.inl wf_X5_15, rfl, rfl⟩
theorem fl_X5_25 : FL RX5 25 5 3 false .int := ⟨RX5, TX5, 7, tyX5, rfl, by decide, uin_X5, by decide, tyX5_ok, nmX5, Or.inl wf_X5_25, rfl, rfl⟩
theorem fl_X5_29 : FL RX5 29 5 4 false .int := ⟨RX5, TX5, 7, tyX5, rfl, by decide, uin_X5, by decide, tyX5_ok, nmX5, Or.inl wf_X5_29, rfl, rfl⟩
theorem fl_X5_32 : FL RX5 32 5 5 false .int := ⟨RX5, TX5, 7, tyX5, rfl, by decide, uin_X5, by decide, tyX5_ok, nmX5, Or.inl wf_X5_32, rfl, rfl⟩
theorem fl_X5_35 : FL RX5 35 6 1 false .int := ⟨RX6, TX6, 2, tyX6, rfl, by decide, uin_X6, by decide, tyX6_ok, nmX6, Or.inr wf_X5_35, rfl, rfl⟩
theorem fl_X5_40 : FL RX5 40 5 2 false .int := ⟨RX5, TX5, 7, tyX5, rfl, by decide, uin_X5, by decide, tyX5_ok, nmX5, Or.inl wf_X5_40, rfl, rfl⟩
theorem fl_X5_55 : FL RX5 55 5 6 false .int := ⟨RX5, TX5, 7, tyX5, rfl, by decide, uin_X5, by decide, tyX5_ok, nmX5, Or.inl wf_X5_55, rfl, rfl⟩
theorem fl_X5_9 : FL RX5 9 5 1 true (.array .int) := ⟨RX5, TX5, 7, tyX5, rfl, by decide, uin_X5, by decide, tyX5_ok, nmX5, Or.inl wf_X5_9, rfl, rfl⟩
theorem fl_X6_15 : FL RX6 15 6 1 false .int := ⟨RX6, TX6, 2, tyX6, rfl, by decide, uin_X6, by decide, tyX6_ok, nmX6, Or.inl wf_X6_15, rfl, rfl⟩
theorem fl_X6_9 : FL RX6 9 6 0 true (.array .char) := ⟨RX6, TX6, 2, tyX6, rfl, by decide, uin_X6, by decide, tyX6_ok, nmX6, Or.inl wf_X6_9, rfl, rfl⟩
theorem fl_X8_13 : FL RX8 13 8 1 true (.array .int) := ⟨RX8, TX8, 15, tyX8, rfl, by decide, uin_X8, by decide, tyX8_ok, nmX8, Or.inl wf_X8_13, rfl, rfl⟩
theorem fl_X8_148 : FL RX8 148 8 7 false .int := ⟨RX8, TX8, 15, tyX8, rfl, by decide, uin_X8, by decide, tyX8_ok, nmX8, Or.inl wf_X8_148, rfl, rfl⟩
theorem fl_X8_151 : FL RX8 151 8 8 false .int := ⟨RX8, TX8, 15, tyX8, rfl, by decide, uin_X8, by decide, tyX8_ok, nmX8, Or.inl wf_X8_151, rfl, rfl⟩
theorem fl_X8_157 : FL RX8 157 8 13 false .int := ⟨RX8, TX8, 15, tyX8, rfl, by decide, uin_X8, by decide, tyX8_ok, nmX8, Or.inl wf_X8_157, rfl, rfl⟩
theorem fl_X8_16 : FL RX8 16 8 2 true (.array .int) := ⟨RX8, TX8, 15, tyX8, rfl, by decide, uin_X8, by decide, tyX8_ok, nmX8, Or.inl wf_X8_16, rfl, rfl⟩
theorem fl_X8_185 : FL RX8 185 8 9 false .int := ⟨RX8, TX8, 15, tyX8, rfl, by decide, uin_X8, by decide, tyX8_ok, nmX8, Or.inl wf_X8_185, rfl, rfl⟩
theorem fl_X8_188 : FL RX8 188 8 12 false .int := ⟨RX8, TX8, 15, tyX8, rfl, by decide, uin_X8, by decide, tyX8_ok, nmX8, Or.inl wf_X8_188, rfl, rfl⟩
theorem fl_X8_19 : FL RX8 19 8 3 true (.array .int) := ⟨RX8, TX8, 15, tyX8, rfl, by decide, uin_X8, by decide, tyX8_ok, nmX8, Or.inl wf_X8_19, rfl, rfl⟩
theorem fl_X8_198 : FL RX8 198 8 10 false .int := ⟨RX8, TX8, 15, tyX8, rfl, by decide, uin_X8, by decide, tyX8_ok, nmX8, Or.inl wf_X8_198, rfl, rfl⟩
theorem fl_X8_201 : FL RX8 201 8 11 false .int := ⟨RX8, TX8, 15, tyX8, rfl, by decide, uin_X8, by decide, tyX8_ok, nmX8, Or.inl wf_X8_201, rfl, rfl⟩
theorem fl_X8_22 : FL RX8 22 8 6 true (.array .int) := ⟨RX8, TX8, 15, tyX8, rfl, by decide, uin_X8, by decide, tyX8_ok, nmX8, Or.inl wf_X8_22, rfl, rfl⟩
theorem fl_X8_25 : FL RX8 25 8 14 true (.array .int) := ⟨RX8, TX8, 15, tyX8, rfl, by decide, uin_X8, by decide, tyX8_ok, nmX8, Or.inl wf_X8_25, rfl, rfl⟩
theorem fl_X8_28 : FL RX8 28 8 5 false .boolean := ⟨RX8, TX8, 15, tyX8, rfl, by decide, uin_X8, by decide, tyX8_ok, nmX8, Or.inl wf_X8_28, rfl, rfl⟩
theorem fl_X8_32 : FL RX8 32 8 4 false .int := ⟨RX8, TX8, 15, tyX8, rfl, by decide, uin_X8, by decide, tyX8_ok, nmX8, Or.inl wf_X8_32, rfl, rfl⟩
theorem fl_X8_7 : FL RX8 7 8 0 true (.array .int) := ⟨RX8, TX8, 15, tyX8, rfl, by decide, uin_X8, by decide, tyX8_ok, nmX8, Or.inl wf_X8_7, rfl, rfl⟩
theorem cs_X7_108 : CV RX7 108 RX3 yX3_groupAt cX3_groupAt 2 (some (.object "RenewalClocks$Group")) 1 := ⟨wl_X7_108, wi_X3_groupAt, ws_X3_groupAt, wz_X3, wc_X3_groupAt, rfl, ⟨by decide +kernel, by decide +kernel, by decide +kernel⟩⟩
theorem cs_X7_120 : CV RX7 120 RX3 yX3_leastRest cX3_leastRest 5 (some .int) 1 := ⟨wl_X7_120, wi_X3_leastRest, ws_X3_leastRest, wz_X3, wc_X3_leastRest, rfl, ⟨by decide +kernel, by decide +kernel, by decide +kernel⟩⟩
theorem cs_X7_128 : CV RX7 128 RX3 yX3_sumOver cX3_sumOver 5 (some .int) 2 := ⟨wl_X7_128, wi_X3_sumOver, ws_X3_sumOver, wz_X3, wc_X3_sumOver, rfl, ⟨by decide +kernel, by decide +kernel, by decide +kernel⟩⟩
theorem cs_X7_131 : CV RX7 131 RX3 yX3_clockInPlace cX3_clockInPlace 3 (some .int) 1 := ⟨wl_X7_131, wi_X3_clockInPlace, ws_X3_clockInPlace, wz_X3, wc_X3_clockInPlace, rfl, ⟨by decide +kernel, by decide +kernel, by decide +kernel⟩⟩
theorem cs_X7_134 : CV RX7 134 RX3 yX3_copyFrom cX3_copyFrom 3 none 1 := ⟨wl_X7_134, wi_X3_copyFrom, ws_X3_copyFrom, wz_X3, wc_X3_copyFrom, rfl, ⟨by decide +kernel, by decide +kernel, by decide +kernel⟩⟩
theorem cs_X7_137 : CV RX7 137 RX3 yX3_endTick cX3_endTick 3 (some .int) 0 := ⟨wl_X7_137, wi_X3_endTick, ws_X3_endTick, wz_X3, wc_X3_endTick, rfl, ⟨by decide +kernel, by decide +kernel, by decide +kernel⟩⟩
theorem cs_X7_141 : CV RX7 141 RX0 yX0_age cX0_age 1 (some .int) 0 := ⟨wl_X7_141, wi_X0_age, ws_X0_age, wz_X0, wc_X0_age, rfl, ⟨by decide +kernel, by decide +kernel, by decide +kernel⟩⟩
theorem cs_X7_151 : CV RX7 151 RX3 yX3_waitDueToAll cX3_waitDueToAll 4 (some .double) 0 := ⟨wl_X7_151, wi_X3_waitDueToAll, ws_X3_waitDueToAll, wz_X3, wc_X3_waitDueToAll, rfl, ⟨by decide +kernel, by decide +kernel, by decide +kernel⟩⟩
theorem cs_X7_167 : CV RX7 167 RX3 yX3_aboutToTell cX3_aboutToTell 3 (some .int) 0 := ⟨wl_X7_167, wi_X3_aboutToTell, ws_X3_aboutToTell, wz_X3, wc_X3_aboutToTell, rfl, ⟨by decide +kernel, by decide +kernel, by decide +kernel⟩⟩
theorem cs_X7_170 : CV RX7 170 RX3 yX3_greatestAge cX3_greatestAge 3 (some .int) 0 := ⟨wl_X7_170, wi_X3_greatestAge, ws_X3_greatestAge, wz_X3, wc_X3_greatestAge, rfl, ⟨by decide +kernel, by decide +kernel, by decide +kernel⟩⟩
theorem cs_X7_179 : CV RX7 179 RX4 yX4_restore cX4_restore 2 (some .boolean) 1 := ⟨wl_X7_179, wi_X4_restore, ws_X4_restore, wz_X4, wc_X4_restore, rfl, ⟨by decide +kernel, by decide +kernel, by decide +kernel⟩⟩
theorem cs_X7_184 : CV RX7 184 RX6 yX6_append cX6_append 2 (some .boolean) 1 := ⟨wl_X7_184, wi_X6_append, ws_X6_append, wz_X6, wc_X6_append, rfl, ⟨by decide +kernel, by decide +kernel, by decide +kernel⟩⟩
theorem cs_X7_189 : CV RX7 189 RX5 yX5_tryOut cX5_tryOut 5 none 2 := ⟨wl_X7_189, wi_X5_tryOut, ws_X5_tryOut, wz_X5, wc_X5_tryOut, rfl, ⟨by decide +kernel, by decide +kernel, by decide +kernel⟩⟩
theorem cs_X7_203 : CV RX7 203 RX4 yX4_keep cX4_keep 3 none 0 := ⟨wl_X7_203, wi_X4_keep, ws_X4_keep, wz_X4, wc_X4_keep, rfl, ⟨by decide +kernel, by decide +kernel, by decide +kernel⟩⟩
theorem cs_X7_212 : CS RX7 212 yX7_isLaw cX7_isLaw 1 (some .boolean) 1 := ⟨wl_X7_212, wt_X7_isLaw, wz_X7, wc_X7_isLaw, ⟨by decide +kernel, by decide +kernel, by decide +kernel⟩⟩
theorem cs_X7_216 : CS RX7 216 yX7_isGap cX7_isGap 1 (some .boolean) 1 := ⟨wl_X7_216, wt_X7_isGap, wz_X7, wc_X7_isGap, ⟨by decide +kernel, by decide +kernel, by decide +kernel⟩⟩
theorem cs_X7_219 : CS RX7 219 yX7_mayFollow cX7_mayFollow 2 (some .boolean) 2 := ⟨wl_X7_219, wt_X7_mayFollow, wz_X7, wc_X7_mayFollow, ⟨by decide +kernel, by decide +kernel, by decide +kernel⟩⟩
theorem cs_X7_42 : CV RX7 42 RX4 yX4_note cX4_note 2 none 1 := ⟨wl_X7_42, wi_X4_note, ws_X4_note, wz_X4, wc_X4_note, rfl, ⟨by decide +kernel, by decide +kernel, by decide +kernel⟩⟩
theorem cs_X7_46 : CV RX7 46 RX3 yX3_addClock cX3_addClock 7 (some .int) 5 := ⟨wl_X7_46, wi_X3_addClock, ws_X3_addClock, wz_X3, wc_X3_addClock, rfl, ⟨by decide +kernel, by decide +kernel, by decide +kernel⟩⟩
theorem cs_X7_50 : CV RX7 50 RX7 yX7_settle cX7_settle 2 (some .int) 1 := ⟨wl_X7_50, wi_X7_settle, ws_X7_settle, wz_X7, wc_X7_settle, rfl, ⟨by decide +kernel, by decide +kernel, by decide +kernel⟩⟩
theorem cs_X7_54 : CV RX7 54 RX3 yX3_windClock cX3_windClock 3 (some .int) 1 := ⟨wl_X7_54, wi_X3_windClock, ws_X3_windClock, wz_X3, wc_X3_windClock, rfl, ⟨by decide +kernel, by decide +kernel, by decide +kernel⟩⟩
theorem cs_X7_57 : CV RX7 57 RX3 yX3_endTicks cX3_endTicks 4 (some .int) 1 := ⟨wl_X7_57, wi_X3_endTicks, ws_X3_endTicks, wz_X3, wc_X3_endTicks, rfl, ⟨by decide +kernel, by decide +kernel, by decide +kernel⟩⟩
theorem cs_X7_60 : CV RX7 60 RX3 yX3_addPassenger cX3_addPassenger 3 (some .int) 1 := ⟨wl_X7_60, wi_X3_addPassenger, ws_X3_addPassenger, wz_X3, wc_X3_addPassenger, rfl, ⟨by decide +kernel, by decide +kernel, by decide +kernel⟩⟩
theorem cs_X7_63 : CV RX7 63 RX3 yX3_addGroup cX3_addGroup 2 (some .int) 1 := ⟨wl_X7_63, wi_X3_addGroup, ws_X3_addGroup, wz_X3, wc_X3_addGroup, rfl, ⟨by decide +kernel, by decide +kernel, by decide +kernel⟩⟩
theorem cs_X7_66 : CV RX7 66 RX3 yX3_joinGroup cX3_joinGroup 5 (some .int) 2 := ⟨wl_X7_66, wi_X3_joinGroup, ws_X3_joinGroup, wz_X3, wc_X3_joinGroup, rfl, ⟨by decide +kernel, by decide +kernel, by decide +kernel⟩⟩
theorem cs_X7_70 : CV RX7 70 RX3 yX3_leaveGroup cX3_leaveGroup 4 (some .int) 2 := ⟨wl_X7_70, wi_X3_leaveGroup, ws_X3_leaveGroup, wz_X3, wc_X3_leaveGroup, rfl, ⟨by decide +kernel, by decide +kernel, by decide +kernel⟩⟩
theorem cs_X7_73 : CV RX7 73 RX3 yX3_clockAt cX3_clockAt 2 (some (.object "RenewalClocks$Clock")) 1 := ⟨wl_X7_73, wi_X3_clockAt, ws_X3_clockAt, wz_X3, wc_X3_clockAt, rfl, ⟨by decide +kernel, by decide +kernel, by decide +kernel⟩⟩
theorem cs_X7_78 : CV RX7 78 RX0 yX0_tell cX0_tell 2 (some .int) 1 := ⟨wl_X7_78, wi_X0_tell, ws_X0_tell, wz_X0, wc_X0_tell, rfl, ⟨by decide +kernel, by decide +kernel, by decide +kernel⟩⟩
theorem cs_X7_89 : CV RX7 89 RX1 yX1_meanOf cX1_meanOf 2 (some .double) 1 := ⟨wl_X7_89, wi_X1_meanOf, ws_X1_meanOf, wz_X1, wc_X1_meanOf, rfl, ⟨by decide +kernel, by decide +kernel, by decide +kernel⟩⟩
theorem cs_X7_95 : CS RX7 95 yX7_bitsOf cX7_bitsOf 9 (some .long) 1 := ⟨wl_X7_95, wt_X7_bitsOf, wz_X7, wc_X7_bitsOf, ⟨by decide +kernel, by decide +kernel, by decide +kernel⟩⟩
theorem cs_X0_47 : CV RX0 47 RX1 yX1_empty cX1_empty 1 none 0 := ⟨wl_X0_47, wi_X1_empty, ws_X1_empty, wz_X1, wc_X1_empty, rfl, ⟨by decide +kernel, by decide +kernel, by decide +kernel⟩⟩
theorem cs_X0_50 : CV RX0 50 RX0 yX0_fillRound cX0_fillRound 2 none 0 := ⟨wl_X0_50, wi_X0_fillRound, ws_X0_fillRound, wz_X0, wc_X0_fillRound, rfl, ⟨by decide +kernel, by decide +kernel, by decide +kernel⟩⟩
theorem cs_X0_53 : CV RX0 53 RX1 yX1_add cX1_add 3 none 2 := ⟨wl_X0_53, wi_X1_add, ws_X1_add, wz_X1, wc_X1_add, rfl, ⟨by decide +kernel, by decide +kernel, by decide +kernel⟩⟩
theorem cs_X0_63 : CV RX0 63 RX1 yX1_copyFrom cX1_copyFrom 2 none 1 := ⟨wl_X0_63, wi_X1_copyFrom, ws_X1_copyFrom, wz_X1, wc_X1_copyFrom, rfl, ⟨by decide +kernel, by decide +kernel, by decide +kernel⟩⟩
theorem cs_X0_70 : CV RX0 70 RX0 yX0_age cX0_age 1 (some .int) 0 := ⟨wl_X0_70, wi_X0_age, ws_X0_age, wz_X0, wc_X0_age, rfl, ⟨by decide +kernel, by decide +kernel, by decide +kernel⟩⟩
theorem cs_X2_22 : CS RX2 22 yJ6_bitCount_0f7a4 cJ6_bitCount_0f7a4 1 (some .int) 1 := ⟨wl_X2_22, wt_J6_bitCount_0f7a4, wz_J6, wc_J6_bitCount_0f7a4, ⟨by decide +kernel, by decide +kernel, by decide +kernel⟩⟩
theorem cs_X3_100 : CV RX3 100 RX2 yX2_passTick cX2_passTick 3 none 1 := ⟨wl_X3_100, wi_X2_passTick, ws_X2_passTick, wz_X2, wc_X2_passTick, rfl, ⟨by decide +kernel, by decide +kernel, by decide +kernel⟩⟩
theorem cs_X3_102 : CS RX3 102 yJ6_bitCount_0f7a4 cJ6_bitCount_0f7a4 1 (some .int) 1 := ⟨wl_X3_102, wt_J6_bitCount_0f7a4, wz_J6, wc_J6_bitCount_0f7a4, ⟨by decide +kernel, by decide +kernel, by decide +kernel⟩⟩
theorem cs_X3_116 : CSN RX3 116 yX7_isLaw cX7_isLaw 1 (some .boolean) 1 := ⟨List.mem_of_getElem? (i := 38) rfl, wt_X7_isLaw, wz_X7, wc_X7_isLaw, ⟨by decide +kernel, by decide +kernel, by decide +kernel⟩⟩
theorem cs_X3_120 : CV RX3 120 RX2 yX2_set cX2_set 2 none 1 := ⟨wl_X3_120, wi_X2_set, ws_X2_set, wz_X2, wc_X2_set, rfl, ⟨by decide +kernel, by decide +kernel, by decide +kernel⟩⟩
theorem cs_X3_122 : CV RX3 122 RX3 yX3_groupAt cX3_groupAt 2 (some (.object "RenewalClocks$Group")) 1 := ⟨wl_X3_122, wi_X3_groupAt, ws_X3_groupAt, wz_X3, wc_X3_groupAt, rfl, ⟨by decide +kernel, by decide +kernel, by decide +kernel⟩⟩
theorem cs_X3_127 : CV RX3 127 RX2 yX2_has cX2_has 2 (some .boolean) 1 := ⟨wl_X3_127, wi_X2_has, ws_X2_has, wz_X2, wc_X2_has, rfl, ⟨by decide +kernel, by decide +kernel, by decide +kernel⟩⟩
theorem cs_X3_131 : CV RX3 131 RX2 yX2_size cX2_size 1 (some .int) 0 := ⟨wl_X3_131, wi_X2_size, ws_X2_size, wz_X2, wc_X2_size, rfl, ⟨by decide +kernel, by decide +kernel, by decide +kernel⟩⟩
theorem cs_X3_138 : CV RX3 138 RX0 yX0_tell cX0_tell 2 (some .int) 1 := ⟨wl_X3_138, wi_X0_tell, ws_X0_tell, wz_X0, wc_X0_tell, rfl, ⟨by decide +kernel, by decide +kernel, by decide +kernel⟩⟩
theorem cs_X3_141 : CV RX3 141 RX3 yX3_clocksAhead cX3_clocksAhead 6 (some .int) 2 := ⟨wl_X3_141, wi_X3_clocksAhead, ws_X3_clocksAhead, wz_X3, wc_X3_clocksAhead, rfl, ⟨by decide +kernel, by decide +kernel, by decide +kernel⟩⟩
theorem cs_X3_145 : CV RX3 145 RX1 yX1_meanOf cX1_meanOf 2 (some .double) 1 := ⟨wl_X3_145, wi_X1_meanOf, ws_X1_meanOf, wz_X1, wc_X1_meanOf, rfl, ⟨by decide +kernel, by decide +kernel, by decide +kernel⟩⟩
theorem cs_X3_149 : CV RX3 149 RX0 yX0_age cX0_age 1 (some .int) 0 := ⟨wl_X3_149, wi_X0_age, ws_X0_age, wz_X0, wc_X0_age, rfl, ⟨by decide +kernel, by decide +kernel, by decide +kernel⟩⟩
theorem cs_X3_152 : CS RX3 152 yJ9_max_7cf53 cJ9_max_7cf53 2 (some .int) 2 := ⟨wl_X3_152, wt_J9_max_7cf53, wz_J9, wc_J9_max_7cf53, ⟨by decide +kernel, by decide +kernel, by decide +kernel⟩⟩
theorem cs_X3_32 : CV RX3 32 RX0 yX0_copyFrom cX0_copyFrom 2 none 1 := ⟨wl_X3_32, wi_X0_copyFrom, ws_X0_copyFrom, wz_X0, wc_X0_copyFrom, rfl, ⟨by decide +kernel, by decide +kernel, by decide +kernel⟩⟩
theorem cs_X3_39 : CV RX3 39 RX2 yX2_copyFrom cX2_copyFrom 2 none 1 := ⟨wl_X3_39, wi_X2_copyFrom, ws_X2_copyFrom, wz_X2, wc_X2_copyFrom, rfl, ⟨by decide +kernel, by decide +kernel, by decide +kernel⟩⟩
theorem cs_X3_45 : CSN RX3 45 yX7_isClock cX7_isClock 5 (some .boolean) 5 := ⟨List.mem_of_getElem? (i := 37) rfl, wt_X7_isClock, wz_X7, wc_X7_isClock, ⟨by decide +kernel, by decide +kernel, by decide +kernel⟩⟩
theorem cs_X3_51 : CV RX3 51 RX0 yX0_set cX0_set 6 none 5 := ⟨wl_X3_51, wi_X0_set, ws_X0_set, wz_X0, wc_X0_set, rfl, ⟨by decide +kernel, by decide +kernel, by decide +kernel⟩⟩
theorem cs_X3_55 : CV RX3 55 RX3 yX3_beginGap cX3_beginGap 2 none 1 := ⟨wl_X3_55, wi_X3_beginGap, ws_X3_beginGap, wz_X3, wc_X3_beginGap, rfl, ⟨by decide +kernel, by decide +kernel, by decide +kernel⟩⟩
theorem cs_X3_58 : CV RX3 58 RX3 yX3_clockAt cX3_clockAt 2 (some (.object "RenewalClocks$Clock")) 1 := ⟨wl_X3_58, wi_X3_clockAt, ws_X3_clockAt, wz_X3, wc_X3_clockAt, rfl, ⟨by decide +kernel, by decide +kernel, by decide +kernel⟩⟩
theorem cs_X3_80 : CV RX3 80 RX3 yX3_draw cX3_draw 2 (some .int) 1 := ⟨wl_X3_80, wi_X3_draw, ws_X3_draw, wz_X3, wc_X3_draw, rfl, ⟨by decide +kernel, by decide +kernel, by decide +kernel⟩⟩
theorem cs_X3_84 : CV RX3 84 RX0 yX0_placeInTurn cX0_placeInTurn 1 (some .int) 0 := ⟨wl_X3_84, wi_X0_placeInTurn, ws_X0_placeInTurn, wz_X0, wc_X0_placeInTurn, rfl, ⟨by decide +kernel, by decide +kernel, by decide +kernel⟩⟩
theorem cs_X3_88 : CV RX3 88 RX0 yX0_beginAt cX0_beginAt 2 none 1 := ⟨wl_X3_88, wi_X0_beginAt, ws_X0_beginAt, wz_X0, wc_X0_beginAt, rfl, ⟨by decide +kernel, by decide +kernel, by decide +kernel⟩⟩
theorem cs_X3_93 : CV RX3 93 RX3 yX3_endTick cX3_endTick 3 (some .int) 0 := ⟨wl_X3_93, wi_X3_endTick, ws_X3_endTick, wz_X3, wc_X3_endTick, rfl, ⟨by decide +kernel, by decide +kernel, by decide +kernel⟩⟩
theorem cs_X3_96 : CV RX3 96 RX0 yX0_passTick cX0_passTick 1 (some .boolean) 0 := ⟨wl_X3_96, wi_X0_passTick, ws_X0_passTick, wz_X0, wc_X0_passTick, rfl, ⟨by decide +kernel, by decide +kernel, by decide +kernel⟩⟩
theorem cs_X4_22 : CV RX4 22 RX3 yX3_copyFrom cX3_copyFrom 3 none 1 := ⟨wl_X4_22, wi_X3_copyFrom, ws_X3_copyFrom, wz_X3, wc_X3_copyFrom, rfl, ⟨by decide +kernel, by decide +kernel, by decide +kernel⟩⟩
theorem cs_X5_19 : CV RX5 19 RX3 yX3_copyFrom cX3_copyFrom 3 none 1 := ⟨wl_X5_19, wi_X3_copyFrom, ws_X3_copyFrom, wz_X3, wc_X3_copyFrom, rfl, ⟨by decide +kernel, by decide +kernel, by decide +kernel⟩⟩
theorem cs_X5_43 : CV RX5 43 RX5 yX5_readOrder cX5_readOrder 4 (some .boolean) 0 := ⟨wl_X5_43, wi_X5_readOrder, ws_X5_readOrder, wz_X5, wc_X5_readOrder, rfl, ⟨by decide +kernel, by decide +kernel, by decide +kernel⟩⟩
theorem cs_X5_47 : CV RX5 47 RX5 yX5_setFault cX5_setFault 3 none 2 := ⟨wl_X5_47, wi_X5_setFault, ws_X5_setFault, wz_X5, wc_X5_setFault, rfl, ⟨by decide +kernel, by decide +kernel, by decide +kernel⟩⟩
theorem cs_X5_51 : CV RX5 51 RX5 yX5_obey cX5_obey 2 (some .int) 1 := ⟨wl_X5_51, wi_X5_obey, ws_X5_obey, wz_X5, wc_X5_obey, rfl, ⟨by decide +kernel, by decide +kernel, by decide +kernel⟩⟩
theorem cs_X5_58 : CV RX5 58 RX6 yX6_signAt cX6_signAt 2 (some .char) 1 := ⟨wl_X5_58, wi_X6_signAt, ws_X6_signAt, wz_X6, wc_X6_signAt, rfl, ⟨by decide +kernel, by decide +kernel, by decide +kernel⟩⟩
theorem cs_X5_62 : CS RX5 62 yX5_numbersBehind cX5_numbersBehind 1 (some .int) 1 := ⟨wl_X5_62, wt_X5_numbersBehind, wz_X5, wc_X5_numbersBehind, ⟨by decide +kernel, by decide +kernel, by decide +kernel⟩⟩
theorem cs_X5_66 : CV RX5 66 RX5 yX5_readNumber cX5_readNumber 4 (some .boolean) 1 := ⟨wl_X5_66, wi_X5_readNumber, ws_X5_readNumber, wz_X5, wc_X5_readNumber, rfl, ⟨by decide +kernel, by decide +kernel, by decide +kernel⟩⟩
theorem cs_X5_70 : CS RX5 70 yX5_isDigit cX5_isDigit 1 (some .boolean) 1 := ⟨wl_X5_70, wt_X5_isDigit, wz_X5, wc_X5_isDigit, ⟨by decide +kernel, by decide +kernel, by decide +kernel⟩⟩
theorem cs_X5_74 : CV RX5 74 RX3 yX3_addClock cX3_addClock 7 (some .int) 5 := ⟨wl_X5_74, wi_X3_addClock, ws_X3_addClock, wz_X3, wc_X3_addClock, rfl, ⟨by decide +kernel, by decide +kernel, by decide +kernel⟩⟩
theorem cs_X5_78 : CV RX5 78 RX3 yX3_endTicks cX3_endTicks 4 (some .int) 1 := ⟨wl_X5_78, wi_X3_endTicks, ws_X3_endTicks, wz_X3, wc_X3_endTicks, rfl, ⟨by decide +kernel, by decide +kernel, by decide +kernel⟩⟩
theorem cs_X5_82 : CV RX5 82 RX3 yX3_addPassenger cX3_addPassenger 3 (some .int) 1 := ⟨wl_X5_82, wi_X3_addPassenger, ws_X3_addPassenger, wz_X3, wc_X3_addPassenger, rfl, ⟨by decide +kernel, by decide +kernel, by decide +kernel⟩⟩
theorem cs_X5_85 : CV RX5 85 RX3 yX3_windClock cX3_windClock 3 (some .int) 1 := ⟨wl_X5_85, wi_X3_windClock, ws_X3_windClock, wz_X3, wc_X3_windClock, rfl, ⟨by decide +kernel, by decide +kernel, by decide +kernel⟩⟩
theorem cs_X5_88 : CV RX5 88 RX3 yX3_joinGroup cX3_joinGroup 5 (some .int) 2 := ⟨wl_X5_88, wi_X3_joinGroup, ws_X3_joinGroup, wz_X3, wc_X3_joinGroup, rfl, ⟨by decide +kernel, by decide +kernel, by decide +kernel⟩⟩
theorem cs_L_13 : CV RL 13 RX7 yX7_clock cX7_clock 6 (some .int) 5 := ⟨wl_L_13, wi_X7_clock, ws_X7_clock, wz_X7, wc_X7_clock, rfl, ⟨by decide +kernel, by decide +kernel, by decide +kernel⟩⟩
theorem cs_L_17 : CV RL 17 RX8 yX8_clock cX8_clock 8 (some .int) 5 := ⟨wl_L_17, wi_X8_clock, ws_X8_clock, wz_X8, wc_X8_clock, rfl, ⟨by decide +kernel, by decide +kernel, by decide +kernel⟩⟩
theorem cs_L_18 : CV RL 18 RX7 yX7_wind cX7_wind 2 (some .int) 1 := ⟨wl_L_18, wi_X7_wind, ws_X7_wind, wz_X7, wc_X7_wind, rfl, ⟨by decide +kernel, by decide +kernel, by decide +kernel⟩⟩
theorem cs_L_22 : CV RL 22 RX8 yX8_wind cX8_wind 2 (some .int) 1 := ⟨wl_L_22, wi_X8_wind, ws_X8_wind, wz_X8, wc_X8_wind, rfl, ⟨by decide +kernel, by decide +kernel, by decide +kernel⟩⟩
theorem cs_L_23 : CV RL 23 RX7 yX7_tick cX7_tick 2 (some .int) 1 := ⟨wl_L_23, wi_X7_tick, ws_X7_tick, wz_X7, wc_X7_tick, rfl, ⟨by decide +kernel, by decide +kernel, by decide +kernel⟩⟩
theorem cs_L_26 : CV RL 26 RX8 yX8_tick cX8_tick 2 (some .int) 1 := ⟨wl_L_26, wi_X8_tick, ws_X8_tick, wz_X8, wc_X8_tick, rfl, ⟨by decide +kernel, by decide +kernel, by decide +kernel⟩⟩
theorem cs_L_27 : CV RL 27 RX7 yX7_passenger cX7_passenger 2 (some .int) 1 := ⟨wl_L_27, wi_X7_passenger, ws_X7_passenger, wz_X7, wc_X7_passenger, rfl, ⟨by decide +kernel, by decide +kernel, by decide +kernel⟩⟩
theorem cs_L_30 : CV RL 30 RX8 yX8_passenger cX8_passenger 2 (some .int) 1 := ⟨wl_L_30, wi_X8_passenger, ws_X8_passenger, wz_X8, wc_X8_passenger, rfl, ⟨by decide +kernel, by decide +kernel, by decide +kernel⟩⟩
theorem cs_L_31 : CV RL 31 RX7 yX7_group cX7_group 2 (some .int) 1 := ⟨wl_L_31, wi_X7_group, ws_X7_group, wz_X7, wc_X7_group, rfl, ⟨by decide +kernel, by decide +kernel, by decide +kernel⟩⟩
theorem cs_L_34 : CV RL 34 RX8 yX8_group cX8_group 4 (some .int) 1 := ⟨wl_L_34, wi_X8_group, ws_X8_group, wz_X8, wc_X8_group, rfl, ⟨by decide +kernel, by decide +kernel, by decide +kernel⟩⟩
theorem cs_L_35 : CV RL 35 RX7 yX7_join cX7_join 3 (some .int) 2 := ⟨wl_L_35, wi_X7_join, ws_X7_join, wz_X7, wc_X7_join, rfl, ⟨by decide +kernel, by decide +kernel, by decide +kernel⟩⟩
theorem cs_L_39 : CV RL 39 RX8 yX8_join cX8_join 4 (some .int) 2 := ⟨wl_L_39, wi_X8_join, ws_X8_join, wz_X8, wc_X8_join, rfl, ⟨by decide +kernel, by decide +kernel, by decide +kernel⟩⟩
theorem cs_L_40 : CV RL 40 RX7 yX7_leave cX7_leave 3 (some .int) 2 := ⟨wl_L_40, wi_X7_leave, ws_X7_leave, wz_X7, wc_X7_leave, rfl, ⟨by decide +kernel, by decide +kernel, by decide +kernel⟩⟩
theorem cs_L_43 : CV RL 43 RX8 yX8_leave cX8_leave 3 (some .int) 2 := ⟨wl_L_43, wi_X8_leave, ws_X8_leave, wz_X8, wc_X8_leave, rfl, ⟨by decide +kernel, by decide +kernel, by decide +kernel⟩⟩
theorem cs_L_44 : CV RL 44 RX7 yX7_clockOf cX7_clockOf 4 (some .int) 2 := ⟨wl_L_44, wi_X7_clockOf, ws_X7_clockOf, wz_X7, wc_X7_clockOf, rfl, ⟨by decide +kernel, by decide +kernel, by decide +kernel⟩⟩
theorem cs_L_47 : CV RL 47 RX8 yX8_clockOf cX8_clockOf 3 (some .int) 2 := ⟨wl_L_47, wi_X8_clockOf, ws_X8_clockOf, wz_X8, wc_X8_clockOf, rfl, ⟨by decide +kernel, by decide +kernel, by decide +kernel⟩⟩
theorem cs_L_48 : CV RL 48 RX7 yX7_mean cX7_mean 4 (some .long) 2 := ⟨wl_L_48, wi_X7_mean, ws_X7_mean, wz_X7, wc_X7_mean, rfl, ⟨by decide +kernel, by decide +kernel, by decide +kernel⟩⟩
theorem cs_L_52 : CV RL 52 RX8 yX8_mean cX8_mean 3 (some .long) 2 := ⟨wl_L_52, wi_X8_mean, ws_X8_mean, wz_X8, wc_X8_mean, rfl, ⟨by decide +kernel, by decide +kernel, by decide +kernel⟩⟩
theorem cs_L_53 : CV RL 53 RX7 yX7_groupOf cX7_groupOf 4 (some .int) 2 := ⟨wl_L_53, wi_X7_groupOf, ws_X7_groupOf, wz_X7, wc_X7_groupOf, rfl, ⟨by decide +kernel, by decide +kernel, by decide +kernel⟩⟩
theorem cs_L_56 : CV RL 56 RX8 yX8_groupOf cX8_groupOf 3 (some .int) 2 := ⟨wl_L_56, wi_X8_groupOf, ws_X8_groupOf, wz_X8, wc_X8_groupOf, rfl, ⟨by decide +kernel, by decide +kernel, by decide +kernel⟩⟩
theorem cs_L_57 : CV RL 57 RX7 yX7_next cX7_next 2 (some .int) 1 := ⟨wl_L_57, wi_X7_next, ws_X7_next, wz_X7, wc_X7_next, rfl, ⟨by decide +kernel, by decide +kernel, by decide +kernel⟩⟩
theorem cs_L_60 : CV RL 60 RX8 yX8_next cX8_next 5 (some .int) 1 := ⟨wl_L_60, wi_X8_next, ws_X8_next, wz_X8, wc_X8_next, rfl, ⟨by decide +kernel, by decide +kernel, by decide +kernel⟩⟩
theorem cs_L_61 : CV RL 61 RX7 yX7_would cX7_would 7 (some .int) 3 := ⟨wl_L_61, wi_X7_would, ws_X7_would, wz_X7, wc_X7_would, rfl, ⟨by decide +kernel, by decide +kernel, by decide +kernel⟩⟩
theorem cs_L_65 : CV RL 65 RX8 yX8_would cX8_would 6 (some .int) 3 := ⟨wl_L_65, wi_X8_would, ws_X8_would, wz_X8, wc_X8_would, rfl, ⟨by decide +kernel, by decide +kernel, by decide +kernel⟩⟩
theorem cs_L_66 : CV RL 66 RX7 yX7_meets cX7_meets 5 (some .int) 1 := ⟨wl_L_66, wi_X7_meets, ws_X7_meets, wz_X7, wc_X7_meets, rfl, ⟨by decide +kernel, by decide +kernel, by decide +kernel⟩⟩
theorem cs_L_69 : CV RL 69 RX8 yX8_meets cX8_meets 4 (some .int) 1 := ⟨wl_L_69, wi_X8_meets, ws_X8_meets, wz_X8, wc_X8_meets, rfl, ⟨by decide +kernel, by decide +kernel, by decide +kernel⟩⟩
theorem cs_L_70 : CV RL 70 RX7 yX7_longer cX7_longer 1 (some .long) 0 := ⟨wl_L_70, wi_X7_longer, ws_X7_longer, wz_X7, wc_X7_longer, rfl, ⟨by decide +kernel, by decide +kernel, by decide +kernel⟩⟩
theorem cs_L_74 : CV RL 74 RX8 yX8_longer cX8_longer 4 (some .long) 0 := ⟨wl_L_74, wi_X8_longer, ws_X8_longer, wz_X8, wc_X8_longer, rfl, ⟨by decide +kernel, by decide +kernel, by decide +kernel⟩⟩
theorem cs_L_75 : CV RL 75 RX7 yX7_count cX7_count 2 (some .int) 1 := ⟨wl_L_75, wi_X7_count, ws_X7_count, wz_X7, wc_X7_count, rfl, ⟨by decide +kernel, by decide +kernel, by decide +kernel⟩⟩
theorem cs_L_78 : CV RL 78 RX8 yX8_count cX8_count 2 (some .int) 1 := ⟨wl_L_78, wi_X8_count, ws_X8_count, wz_X8, wc_X8_count, rfl, ⟨by decide +kernel, by decide +kernel, by decide +kernel⟩⟩
theorem cs_L_79 : CV RL 79 RX7 yX7_undo cX7_undo 1 (some .int) 0 := ⟨wl_L_79, wi_X7_undo, ws_X7_undo, wz_X7, wc_X7_undo, rfl, ⟨by decide +kernel, by decide +kernel, by decide +kernel⟩⟩
theorem cs_L_83 : CV RL 83 RX8 yX8_undo cX8_undo 2 (some .int) 0 := ⟨wl_L_83, wi_X8_undo, ws_X8_undo, wz_X8, wc_X8_undo, rfl, ⟨by decide +kernel, by decide +kernel, by decide +kernel⟩⟩
theorem cs_L_84 : CV RL 84 RX7 yX7_type cX7_type 2 (some .int) 1 := ⟨wl_L_84, wi_X7_type, ws_X7_type, wz_X7, wc_X7_type, rfl, ⟨by decide +kernel, by decide +kernel, by decide +kernel⟩⟩
theorem cs_L_87 : CV RL 87 RX8 yX8_type cX8_type 2 (some .int) 1 := ⟨wl_L_87, wi_X8_type, ws_X8_type, wz_X8, wc_X8_type, rfl, ⟨by decide +kernel, by decide +kernel, by decide +kernel⟩⟩
theorem cs_L_88 : CV RL 88 RX7 yX7_clearText cX7_clearText 2 (some .int) 0 := ⟨wl_L_88, wi_X7_clearText, ws_X7_clearText, wz_X7, wc_X7_clearText, rfl, ⟨by decide +kernel, by decide +kernel, by decide +kernel⟩⟩
theorem cs_L_91 : CV RL 91 RX8 yX8_clearText cX8_clearText 2 (some .int) 0 := ⟨wl_L_91, wi_X8_clearText, ws_X8_clearText, wz_X8, wc_X8_clearText, rfl, ⟨by decide +kernel, by decide +kernel, by decide +kernel⟩⟩
theorem cs_L_92 : CV RL 92 RX7 yX7_fault cX7_fault 2 (some .int) 1 := ⟨wl_L_92, wi_X7_fault, ws_X7_fault, wz_X7, wc_X7_fault, rfl, ⟨by decide +kernel, by decide +kernel, by decide +kernel⟩⟩
theorem cs_L_95 : CV RL 95 RX8 yX8_fault cX8_fault 3 (some .int) 1 := ⟨wl_L_95, wi_X8_fault, ws_X8_fault, wz_X8, wc_X8_fault, rfl, ⟨by decide +kernel, by decide +kernel, by decide +kernel⟩⟩
theorem cs_L_96 : CV RL 96 RX7 yX7_play cX7_play 1 (some .int) 0 := ⟨wl_L_96, wi_X7_play, ws_X7_play, wz_X7, wc_X7_play, rfl, ⟨by decide +kernel, by decide +kernel, by decide +kernel⟩⟩
theorem cs_L_99 : CV RL 99 RX8 yX8_play cX8_play 2 (some .int) 0 := ⟨wl_L_99, wi_X8_play, ws_X8_play, wz_X8, wc_X8_play, rfl, ⟨by decide +kernel, by decide +kernel, by decide +kernel⟩⟩
theorem cs_X8_101 : CV RX8 101 RX8 yX8_isGroup cX8_isGroup 2 (some .boolean) 1 := ⟨wl_X8_101, wi_X8_isGroup, ws_X8_isGroup, wz_X8, wc_X8_isGroup, rfl, ⟨by decide +kernel, by decide +kernel, by decide +kernel⟩⟩
theorem cs_X8_104 : CV RX8 104 RX8 yX8_isIn cX8_isIn 3 (some .boolean) 2 := ⟨wl_X8_104, wi_X8_isIn, ws_X8_isIn, wz_X8, wc_X8_isIn, rfl, ⟨by decide +kernel, by decide +kernel, by decide +kernel⟩⟩
theorem cs_X8_110 : CV RX8 110 RX8 yX8_ofLaw cX8_ofLaw 6 (some .int) 2 := ⟨wl_X8_110, wi_X8_ofLaw, ws_X8_ofLaw, wz_X8, wc_X8_ofLaw, rfl, ⟨by decide +kernel, by decide +kernel, by decide +kernel⟩⟩
theorem cs_X8_113 : CS RX8 113 yX8_meanOf cX8_meanOf 4 (some .double) 4 := ⟨wl_X8_113, wt_X8_meanOf, wz_X8, wc_X8_meanOf, ⟨by decide +kernel, by decide +kernel, by decide +kernel⟩⟩
theorem cs_X8_119 : CV RX8 119 RX8 yX8_lawMean cX8_lawMean 3 (some .double) 2 := ⟨wl_X8_119, wi_X8_lawMean, ws_X8_lawMean, wz_X8, wc_X8_lawMean, rfl, ⟨by decide +kernel, by decide +kernel, by decide +kernel⟩⟩
theorem cs_X8_123 : CS RX8 123 yJxe99ae_doubleToLongBits_ccdee cJxe99ae_doubleToLongBits_ccdee 2 (some .long) 1 := ⟨wl_X8_123, wt_Jxe99ae_doubleToLongBits_ccdee, wz_Jxe99ae, wc_Jxe99ae_doubleToLongBits_ccdee, ⟨by decide +kernel, by decide +kernel, by decide +kernel⟩⟩
theorem cs_X8_131 : CV RX8 131 RX8 yX8_leastRest cX8_leastRest 4 (some .int) 1 := ⟨wl_X8_131, wi_X8_leastRest, ws_X8_leastRest, wz_X8, wc_X8_leastRest, rfl, ⟨by decide +kernel, by decide +kernel, by decide +kernel⟩⟩
theorem cs_X8_134 : CV RX8 134 RX8 yX8_sumIn cX8_sumIn 4 (some .int) 1 := ⟨wl_X8_134, wi_X8_sumIn, ws_X8_sumIn, wz_X8, wc_X8_sumIn, rfl, ⟨by decide +kernel, by decide +kernel, by decide +kernel⟩⟩
theorem cs_X8_137 : CS RX8 137 yX8_copies cX8_copies 3 none 2 := ⟨wl_X8_137, wt_X8_copies, wz_X8, wc_X8_copies, ⟨by decide +kernel, by decide +kernel, by decide +kernel⟩⟩
theorem cs_X8_141 : CV RX8 141 RX8 yX8_ending cX8_ending 3 (some .int) 0 := ⟨wl_X8_141, wi_X8_ending, ws_X8_ending, wz_X8, wc_X8_ending, rfl, ⟨by decide +kernel, by decide +kernel, by decide +kernel⟩⟩
theorem cs_X8_145 : CV RX8 145 RX8 yX8_oldest cX8_oldest 3 (some .int) 0 := ⟨wl_X8_145, wi_X8_oldest, ws_X8_oldest, wz_X8, wc_X8_oldest, rfl, ⟨by decide +kernel, by decide +kernel, by decide +kernel⟩⟩
theorem cs_X8_154 : CV RX8 154 RX8 yX8_isAt cX8_isAt 3 (some .boolean) 2 := ⟨wl_X8_154, wi_X8_isAt, ws_X8_isAt, wz_X8, wc_X8_isAt, rfl, ⟨by decide +kernel, by decide +kernel, by decide +kernel⟩⟩
theorem cs_X8_160 : CS RX8 160 yX8_numbersOf cX8_numbersOf 1 (some .int) 1 := ⟨wl_X8_160, wt_X8_numbersOf, wz_X8, wc_X8_numbersOf, ⟨by decide +kernel, by decide +kernel, by decide +kernel⟩⟩
theorem cs_X8_163 : CV RX8 163 RX8 yX8_numbered cX8_numbered 3 (some .boolean) 1 := ⟨wl_X8_163, wi_X8_numbered, ws_X8_numbered, wz_X8, wc_X8_numbered, rfl, ⟨by decide +kernel, by decide +kernel, by decide +kernel⟩⟩
theorem cs_X8_166 : CV RX8 166 RX8 yX8_sign cX8_sign 3 (some .boolean) 1 := ⟨wl_X8_166, wi_X8_sign, ws_X8_sign, wz_X8, wc_X8_sign, rfl, ⟨by decide +kernel, by decide +kernel, by decide +kernel⟩⟩
theorem cs_X8_169 : CV RX8 169 RX8 yX8_clock cX8_clock 8 (some .int) 5 := ⟨wl_X8_169, wi_X8_clock, ws_X8_clock, wz_X8, wc_X8_clock, rfl, ⟨by decide +kernel, by decide +kernel, by decide +kernel⟩⟩
theorem cs_X8_173 : CV RX8 173 RX8 yX8_tick cX8_tick 2 (some .int) 1 := ⟨wl_X8_173, wi_X8_tick, ws_X8_tick, wz_X8, wc_X8_tick, rfl, ⟨by decide +kernel, by decide +kernel, by decide +kernel⟩⟩
theorem cs_X8_176 : CV RX8 176 RX8 yX8_passenger cX8_passenger 2 (some .int) 1 := ⟨wl_X8_176, wi_X8_passenger, ws_X8_passenger, wz_X8, wc_X8_passenger, rfl, ⟨by decide +kernel, by decide +kernel, by decide +kernel⟩⟩
theorem cs_X8_179 : CV RX8 179 RX8 yX8_wind cX8_wind 2 (some .int) 1 := ⟨wl_X8_179, wi_X8_wind, ws_X8_wind, wz_X8, wc_X8_wind, rfl, ⟨by decide +kernel, by decide +kernel, by decide +kernel⟩⟩
theorem cs_X8_182 : CV RX8 182 RX8 yX8_join cX8_join 4 (some .int) 2 := ⟨wl_X8_182, wi_X8_join, ws_X8_join, wz_X8, wc_X8_join, rfl, ⟨by decide +kernel, by decide +kernel, by decide +kernel⟩⟩
theorem cs_X8_191 : CV RX8 191 RX8 yX8_reads cX8_reads 4 (some .boolean) 0 := ⟨wl_X8_191, wi_X8_reads, ws_X8_reads, wz_X8, wc_X8_reads, rfl, ⟨by decide +kernel, by decide +kernel, by decide +kernel⟩⟩
theorem cs_X8_195 : CV RX8 195 RX8 yX8_calls cX8_calls 1 (some .int) 0 := ⟨wl_X8_195, wi_X8_calls, ws_X8_calls, wz_X8, wc_X8_calls, rfl, ⟨by decide +kernel, by decide +kernel, by decide +kernel⟩⟩
theorem cs_X8_204 : CV RX8 204 RX8 yX8_plays cX8_plays 4 (some .boolean) 0 := ⟨wl_X8_204, wi_X8_plays, ws_X8_plays, wz_X8, wc_X8_plays, rfl, ⟨by decide +kernel, by decide +kernel, by decide +kernel⟩⟩
theorem cs_X8_36 : CV RX8 36 RX8 yX8_of cX8_of 3 (some .int) 2 := ⟨wl_X8_36, wi_X8_of, ws_X8_of, wz_X8, wc_X8_of, rfl, ⟨by decide +kernel, by decide +kernel, by decide +kernel⟩⟩
theorem cs_X8_40 : CV RX8 40 RX8 yX8_places cX8_places 4 (some .int) 1 := ⟨wl_X8_40, wi_X8_places, ws_X8_places, wz_X8, wc_X8_places, rfl, ⟨by decide +kernel, by decide +kernel, by decide +kernel⟩⟩
theorem cs_X8_44 : CV RX8 44 RX8 yX8_draw cX8_draw 2 (some .int) 1 := ⟨wl_X8_44, wi_X8_draw, ws_X8_draw, wz_X8, wc_X8_draw, rfl, ⟨by decide +kernel, by decide +kernel, by decide +kernel⟩⟩
theorem cs_X8_47 : CV RX8 47 RX8 yX8_sets cX8_sets 4 none 3 := ⟨wl_X8_47, wi_X8_sets, ws_X8_sets, wz_X8, wc_X8_sets, rfl, ⟨by decide +kernel, by decide +kernel, by decide +kernel⟩⟩
theorem cs_X8_51 : CV RX8 51 RX8 yX8_gapAt cX8_gapAt 3 (some .int) 2 := ⟨wl_X8_51, wi_X8_gapAt, ws_X8_gapAt, wz_X8, wc_X8_gapAt, rfl, ⟨by decide +kernel, by decide +kernel, by decide +kernel⟩⟩
theorem cs_X8_54 : CV RX8 54 RX8 yX8_adds cX8_adds 4 none 3 := ⟨wl_X8_54, wi_X8_adds, ws_X8_adds, wz_X8, wc_X8_adds, rfl, ⟨by decide +kernel, by decide +kernel, by decide +kernel⟩⟩
theorem cs_X8_57 : CV RX8 57 RX8 yX8_begins cX8_begins 4 none 2 := ⟨wl_X8_57, wi_X8_begins, ws_X8_begins, wz_X8, wc_X8_begins, rfl, ⟨by decide +kernel, by decide +kernel, by decide +kernel⟩⟩
theorem cs_X8_61 : CV RX8 61 RX8 yX8_rest cX8_rest 2 (some .int) 1 := ⟨wl_X8_61, wi_X8_rest, ws_X8_rest, wz_X8, wc_X8_rest, rfl, ⟨by decide +kernel, by decide +kernel, by decide +kernel⟩⟩
theorem cs_X8_64 : CV RX8 64 RX8 yX8_tells cX8_tells 3 none 1 := ⟨wl_X8_64, wi_X8_tells, ws_X8_tells, wz_X8, wc_X8_tells, rfl, ⟨by decide +kernel, by decide +kernel, by decide +kernel⟩⟩
theorem cs_X8_68 : CV RX8 68 RX8 yX8_ofGroup cX8_ofGroup 3 (some .int) 2 := ⟨wl_X8_68, wi_X8_ofGroup, ws_X8_ofGroup, wz_X8, wc_X8_ofGroup, rfl, ⟨by decide +kernel, by decide +kernel, by decide +kernel⟩⟩
theorem cs_X8_71 : CV RX8 71 RX8 yX8_ones cX8_ones 4 (some .int) 1 := ⟨wl_X8_71, wi_X8_ones, ws_X8_ones, wz_X8, wc_X8_ones, rfl, ⟨by decide +kernel, by decide +kernel, by decide +kernel⟩⟩
theorem cs_X8_74 : CV RX8 74 RX8 yX8_sum cX8_sum 4 (some .int) 1 := ⟨wl_X8_74, wi_X8_sum, ws_X8_sum, wz_X8, wc_X8_sum, rfl, ⟨by decide +kernel, by decide +kernel, by decide +kernel⟩⟩
theorem cs_X8_77 : CV RX8 77 RX8 yX8_ends cX8_ends 4 none 0 := ⟨wl_X8_77, wi_X8_ends, ws_X8_ends, wz_X8, wc_X8_ends, rfl, ⟨by decide +kernel, by decide +kernel, by decide +kernel⟩⟩
theorem cs_X8_80 : CS RX8 80 yX8_in cX8_in 3 (some .boolean) 3 := ⟨wl_X8_80, wt_X8_in, wz_X8, wc_X8_in, ⟨by decide +kernel, by decide +kernel, by decide +kernel⟩⟩
theorem cs_X8_84 : CS RX8 84 yX8_isLaw cX8_isLaw 6 (some .boolean) 5 := ⟨wl_X8_84, wt_X8_isLaw, wz_X8, wc_X8_isLaw, ⟨by decide +kernel, by decide +kernel, by decide +kernel⟩⟩
theorem cs_X8_90 : CV RX8 90 RX8 yX8_changes cX8_changes 2 none 0 := ⟨wl_X8_90, wi_X8_changes, ws_X8_changes, wz_X8, wc_X8_changes, rfl, ⟨by decide +kernel, by decide +kernel, by decide +kernel⟩⟩
theorem cs_X8_93 : CV RX8 93 RX8 yX8_isClock cX8_isClock 2 (some .boolean) 1 := ⟨wl_X8_93, wi_X8_isClock, ws_X8_isClock, wz_X8, wc_X8_isClock, rfl, ⟨by decide +kernel, by decide +kernel, by decide +kernel⟩⟩
theorem cs_X8_98 : CV RX8 98 RX8 yX8_endsFor cX8_endsFor 4 (some .int) 1 := ⟨wl_X8_98, wi_X8_endsFor, ws_X8_endsFor, wz_X8, wc_X8_endsFor, rfl, ⟨by decide +kernel, by decide +kernel, by decide +kernel⟩⟩
theorem cs_Jxe99ae_122 : CS RJxe99ae 122 yJxe99ae_isNaN_b9ae7 cJxe99ae_isNaN_b9ae7 2 (some .boolean) 1 := ⟨wl_Jxe99ae_122, wt_Jxe99ae_isNaN_b9ae7, wz_Jxe99ae, wc_Jxe99ae_isNaN_b9ae7, ⟨by decide +kernel, by decide +kernel, by decide +kernel⟩⟩
end
section
/-! numbers, memory: small laws -/
theorem updr_get (M : Mem) (k : Nat) (r : Nat → Int32) (a b : Nat) : updr M k r a b = if a = k then r b else M a b := by unfold updr; split <;> rfl
theorem upd2_get (M : Mem) (k j : Nat) (v : Int32) (a b : Nat) : upd2 M k j v a b = if a = k then (if b = j then v else M k b) else M a b := by unfold upd2 upd; split <;> rfl
theorem upd2_self (M : Mem) (k j : Nat) (v : Int32) : upd2 M k j v k j = v := by simp [upd2_get]
theorem upd2_j (M : Mem) (k : Nat) {j i : Nat} (v : Int32) (h : i ≠ j) : upd2 M k j v k i = M k i := by simp [upd2_get, h]
theorem upd2_k (M : Mem) {k a : Nat} (j : Nat) (v : Int32) (h : a ≠ k) : upd2 M k j v a = M a := by simp [upd2, h]
theorem upd2_updr (M : Mem) (k j : Nat) (v : Int32) : upd2 M k j v = updr M k (upd (M k) j v) := by funext a; simp [upd2, updr]
theorem updr_upd2 (M : Mem) (k j : Nat) (r : Nat → Int32) (v : Int32) : upd2 (updr M k r) k j v = updr M k (upd r j v) := by funext a; by_cases h : a = k <;> simp [upd2, updr, h]
theorem updr_updr (M : Mem) (k : Nat) (r r' : Nat → Int32) : updr (updr M k r) k r' = updr M k r' := by funext a; by_cases h : a = k <;> simp [updr, h]
theorem updr_self (M : Mem) (k : Nat) (r : Nat → Int32) : updr M k r k = r := by simp [updr]
theorem updr_ne (M : Mem) {k a : Nat} (r : Nat → Int32) (h : a ≠ k) : updr M k r a = M a := by simp [updr, h]
theorem updr_same (M : Mem) (k : Nat) : updr M k (M k) = M := by funext a; by_cases h : a = k <;> simp [updr, h]
/-- kinds round a clock, a hall -/
theorem kd_clk {k : Nat} (h : kd k = 0) : kd (k + 1) = 9 ∧ kd (k + 2) = 1 ∧ kd (k + 3) = 1 := by
  have hk := kd_lt h (by decide)
  have : ∀ k, k < 231 → kd k = 0 → kd (k + 1) = 9 ∧ kd (k + 2) = 1 ∧ kd (k + 3) = 1 := by decide +kernel
  exact this k hk h
theorem kd_hall {k : Nat} (h : kd k = 3) : kd (k + 1) = 15 ∧ kd (k + 2) = 16 ∧ (∀ i, i < 6 → kd (k + 3 + 4 * i) = 0) ∧ ∀ i, i < 4 → kd (k + 27 + i) = 2 := by
  have hk := kd_lt h (by decide)
  have : ∀ k, k < 231 → kd k = 3 → kd (k + 1) = 15 ∧ kd (k + 2) = 16 ∧ (∀ i, i < 6 → kd (k + 3 + 4 * i) = 0) ∧ ∀ i, i < 4 → kd (k + 27 + i) = 2 := by decide +kernel
  exact this k hk h
/-! Gaps -/
/-- a tally with one gap more, so often -/
def radd (r : Nat → Int32) (gp t : Int32) : Nat → Int32 := fun j => if j = 0 then r 0 + t else if j = 1 then r 1 + gp * t else if j = 2 then r 2 + gp * gp * t else if j = 3 then r 3 + gp * (gp + 1) / 2 * t else if j = 4 then (if r 4 < gp then gp else r 4) else r j
def rzero (r : Nat → Int32) : Nat → Int32 := fun j => if j < 5 then 0 else r j
def rcopy (r r' : Nat → Int32) : Nat → Int32 := fun j => if j < 5 then r' j else r j
set_option maxHeartbeats 4000000 in
set_option maxRecDepth 100000 in
theorem c_X1_empty (l : Launch) (g : Gm) (M : Mem) (q : Nat) (hk : kd q = 1) : Cn l yX1_empty cX1_empty 1 none 0 0 g [.ref (ad g q)] M (fun v M2 => v = none ∧ M2 = updr M q (rzero (M q))) := by
  refine Cn.intro (lv0 := [some (.ref (ad g q))]) 0 (by decide +kernel) (Nat.le_of_ble_eq_true rfl) rfl (fun X F r => ?_)
  refine g_aload_n (pc := 0) F dX1_empty_0 rfl ?_
  refine g_iconst (pc := 1) (v := 0) F dX1_empty_1 (by decide) ?_
  refine g_puti (pc := 2) F fl_X1_7 rfl rfl (by assumption) rfl dX1_empty_2 ?_
  refine g_aload_n (pc := 5) F dX1_empty_5 rfl ?_
  refine g_iconst (pc := 6) (v := 0) F dX1_empty_6 (by decide) ?_
  refine g_puti (pc := 7) F fl_X1_13 rfl rfl (by assumption) rfl dX1_empty_7 ?_
  refine g_aload_n (pc := 10) F dX1_empty_10 rfl ?_
  refine g_iconst (pc := 11) (v := 0) F dX1_empty_11 (by decide) ?_
  refine g_puti (pc := 12) F fl_X1_16 rfl rfl (by assumption) rfl dX1_empty_12 ?_
  refine g_aload_n (pc := 15) F dX1_empty_15 rfl ?_
  refine g_iconst (pc := 16) (v := 0) F dX1_empty_16 (by decide) ?_
  refine g_puti (pc := 17) F fl_X1_19 rfl rfl (by assumption) rfl dX1_empty_17 ?_
  refine g_aload_n (pc := 20) F dX1_empty_20 rfl ?_
  refine g_iconst (pc := 21) (v := 0) F dX1_empty_21 (by decide) ?_
  refine g_puti (pc := 22) F fl_X1_22 rfl rfl (by assumption) rfl dX1_empty_22 ?_
  refine g_vret (pc := 25) F r dX1_empty_25 ?_
  refine ⟨rfl, ?_⟩
  simp only [upd2_updr, updr_upd2, updr_self, updr_updr]
  refine congrArg (updr M q) (funext fun j => ?_)
  match j with
  | 0 | 1 | 2 | 3 | 4 => rfl
  | j + 5 => simp [upd, rzero, show ¬ j + 5 < 5 by omega]

set_option maxHeartbeats 4000000 in
set_option maxRecDepth 100000 in
theorem c_X1_add (l : Launch) (g : Gm) (M : Mem) (q : Nat) (hk : kd q = 1) (gp t : Int32) : Cn l yX1_add cX1_add 3 none 0 0 g [.ref (ad g q), .int gp, .int t] M (fun v M2 => v = none ∧ M2 = updr M q (radd (M q) gp t)) := by
  refine Cn.intro (lv0 := [some (.ref (ad g q)), some (.int gp), some (.int t)]) 0 (by decide +kernel) (Nat.le_of_ble_eq_true rfl) rfl (fun X F r => ?_)
  refine g_aload_n (pc := 0) F dX1_add_0 rfl ?_
  refine g_dup (pc := 1) F dX1_add_1 rfl ?_
  refine g_geti (pc := 2) F fl_X1_7 (by assumption) rfl dX1_add_2 ?_
  refine g_iload_n (pc := 5) F dX1_add_5 rfl ?_
  refine g_iadd (pc := 6) F dX1_add_6 ?_
  refine g_puti (pc := 7) F fl_X1_7 rfl rfl (by assumption) rfl dX1_add_7 ?_
  refine g_aload_n (pc := 10) F dX1_add_10 rfl ?_
  refine g_dup (pc := 11) F dX1_add_11 rfl ?_
  refine g_geti (pc := 12) F fl_X1_13 (by assumption) rfl dX1_add_12 ?_
  refine g_iload_n (pc := 15) F dX1_add_15 rfl ?_
  refine g_iload_n (pc := 16) F dX1_add_16 rfl ?_
  refine g_imul (pc := 17) F dX1_add_17 ?_
  refine g_iadd (pc := 18) F dX1_add_18 ?_
  refine g_puti (pc := 19) F fl_X1_13 rfl rfl (by assumption) rfl dX1_add_19 ?_
  refine g_aload_n (pc := 22) F dX1_add_22 rfl ?_
  refine g_dup (pc := 23) F dX1_add_23 rfl ?_
  refine g_geti (pc := 24) F fl_X1_16 (by assumption) rfl dX1_add_24 ?_
  refine g_iload_n (pc := 27) F dX1_add_27 rfl ?_
  refine g_iload_n (pc := 28) F dX1_add_28 rfl ?_
  refine g_imul (pc := 29) F dX1_add_29 ?_
  refine g_iload_n (pc := 30) F dX1_add_30 rfl ?_
  refine g_imul (pc := 31) F dX1_add_31 ?_
  refine g_iadd (pc := 32) F dX1_add_32 ?_
  refine g_puti (pc := 33) F fl_X1_16 rfl rfl (by assumption) rfl dX1_add_33 ?_
  refine g_aload_n (pc := 36) F dX1_add_36 rfl ?_
  refine g_dup (pc := 37) F dX1_add_37 rfl ?_
  refine g_geti (pc := 38) F fl_X1_19 (by assumption) rfl dX1_add_38 ?_
  refine g_iload_n (pc := 41) F dX1_add_41 rfl ?_
  refine g_iload_n (pc := 42) F dX1_add_42 rfl ?_
  refine g_iconst (pc := 43) (v := 1) F dX1_add_43 (by decide) ?_
  refine g_iadd (pc := 44) F dX1_add_44 ?_
  refine g_imul (pc := 45) F dX1_add_45 ?_
  refine g_iconst (pc := 46) (v := 2) F dX1_add_46 (by decide) ?_
  refine g_idiv (pc := 47) F (by decide) dX1_add_47 ?_
  refine g_iload_n (pc := 48) F dX1_add_48 rfl ?_
  refine g_imul (pc := 49) F dX1_add_49 ?_
  refine g_iadd (pc := 50) F dX1_add_50 ?_
  refine g_puti (pc := 51) F fl_X1_19 rfl rfl (by assumption) rfl dX1_add_51 ?_
  refine g_iload_n (pc := 54) F dX1_add_54 rfl ?_
  refine g_aload_n (pc := 55) F dX1_add_55 rfl ?_
  refine g_geti (pc := 56) F fl_X1_22 (by assumption) rfl dX1_add_56 ?_
  refine g_icmp_le (pc := 59) (tgt := 67) F dX1_add_59 (by decide) (fun c59 => ?_) (fun c59 => ?_)
  · refine g_vret (pc := 67) F r dX1_add_67 ?_
    refine ⟨rfl, ?_⟩
    simp only [upd2_updr, updr_upd2, updr_self, updr_updr] at *
    refine congrArg (updr M q) (funext fun j => ?_)
    match j with
    | 0 | 1 | 2 | 3 => rfl
    | 4 => by_cases hz : M q 4 < gp <;> simp_all [upd, radd, updr_get, ← Int32.not_le]
    | j + 5 => simp [upd, radd]
  · refine g_aload_n (pc := 62) F dX1_add_62 rfl ?_
    refine g_iload_n (pc := 63) F dX1_add_63 rfl ?_
    refine g_puti (pc := 64) F fl_X1_22 rfl rfl (by assumption) rfl dX1_add_64 ?_
    refine g_vret (pc := 67) F r dX1_add_67 ?_
    refine ⟨rfl, ?_⟩
    simp only [upd2_updr, updr_upd2, updr_self, updr_updr] at *
    refine congrArg (updr M q) (funext fun j => ?_)
    match j with
    | 0 | 1 | 2 | 3 => rfl
    | 4 => by_cases hz : M q 4 < gp <;> simp_all [upd, radd, updr_get, ← Int32.not_le]
    | j + 5 => simp [upd, radd]

set_option maxHeartbeats 4000000 in
set_option maxRecDepth 100000 in
theorem c_X1_copyFrom (l : Launch) (g : Gm) (M : Mem) (q q2 : Nat) (hk : kd q = 1) (hk2 : kd q2 = 1) (hne : q ≠ q2) : Cn l yX1_copyFrom cX1_copyFrom 2 none 0 0 g [.ref (ad g q), .ref (ad g q2)] M (fun v M2 => v = none ∧ M2 = updr M q (rcopy (M q) (M q2))) := by
  refine Cn.intro (lv0 := [some (.ref (ad g q)), some (.ref (ad g q2))]) 0 (by decide +kernel) (Nat.le_of_ble_eq_true rfl) rfl (fun X F r => ?_)
  refine g_aload_n (pc := 0) F dX1_copyFrom_0 rfl ?_
  refine g_aload_n (pc := 1) F dX1_copyFrom_1 rfl ?_
  refine g_geti (pc := 2) F fl_X1_7 (by assumption) rfl dX1_copyFrom_2 ?_
  refine g_puti (pc := 5) F fl_X1_7 rfl rfl (by assumption) rfl dX1_copyFrom_5 ?_
  refine g_aload_n (pc := 8) F dX1_copyFrom_8 rfl ?_
  refine g_aload_n (pc := 9) F dX1_copyFrom_9 rfl ?_
  refine g_geti (pc := 10) F fl_X1_13 (by assumption) rfl dX1_copyFrom_10 ?_
  refine g_puti (pc := 13) F fl_X1_13 rfl rfl (by assumption) rfl dX1_copyFrom_13 ?_
  refine g_aload_n (pc := 16) F dX1_copyFrom_16 rfl ?_
  refine g_aload_n (pc := 17) F dX1_copyFrom_17 rfl ?_
  refine g_geti (pc := 18) F fl_X1_16 (by assumption) rfl dX1_copyFrom_18 ?_
  refine g_puti (pc := 21) F fl_X1_16 rfl rfl (by assumption) rfl dX1_copyFrom_21 ?_
  refine g_aload_n (pc := 24) F dX1_copyFrom_24 rfl ?_
  refine g_aload_n (pc := 25) F dX1_copyFrom_25 rfl ?_
  refine g_geti (pc := 26) F fl_X1_19 (by assumption) rfl dX1_copyFrom_26 ?_
  refine g_puti (pc := 29) F fl_X1_19 rfl rfl (by assumption) rfl dX1_copyFrom_29 ?_
  refine g_aload_n (pc := 32) F dX1_copyFrom_32 rfl ?_
  refine g_aload_n (pc := 33) F dX1_copyFrom_33 rfl ?_
  refine g_geti (pc := 34) F fl_X1_22 (by assumption) rfl dX1_copyFrom_34 ?_
  refine g_puti (pc := 37) F fl_X1_22 rfl rfl (by assumption) rfl dX1_copyFrom_37 ?_
  refine g_vret (pc := 40) F r dX1_copyFrom_40 ?_
  refine ⟨rfl, ?_⟩
  simp only [upd2_updr, updr_upd2, updr_self, updr_updr, updr_ne _ _ hne.symm]
  refine congrArg (updr M q) (funext fun j => ?_)
  match j with
  | 0 | 1 | 2 | 3 | 4 => rfl
  | j + 5 => simp [upd, rcopy, show ¬ j + 5 < 5 by omega]

/-! Group -/
set_option maxHeartbeats 4000000 in
set_option maxRecDepth 100000 in
theorem c_X2_set (l : Launch) (g : Gm) (M : Mem) (q : Nat) (hk : kd q = 2) (law : Int32) : Cn l yX2_set cX2_set 2 none 0 0 g [.ref (ad g q), .int law] M (fun v M2 => v = none ∧ M2 = updr M q (fun j => if j = 0 then law else if j < 4 then 0 else M q j)) := by
  refine Cn.intro (lv0 := [some (.ref (ad g q)), some (.int law)]) 0 (by decide +kernel) (Nat.le_of_ble_eq_true rfl) rfl (fun X F r => ?_)
  refine g_aload_n (pc := 0) F dX2_set_0 rfl ?_
  refine g_iload_n (pc := 1) F dX2_set_1 rfl ?_
  refine g_puti (pc := 2) F fl_X2_7 rfl rfl (by assumption) rfl dX2_set_2 ?_
  refine g_aload_n (pc := 5) F dX2_set_5 rfl ?_
  refine g_iconst (pc := 6) (v := 0) F dX2_set_6 (by decide) ?_
  refine g_puti (pc := 7) F fl_X2_13 rfl rfl (by assumption) rfl dX2_set_7 ?_
  refine g_aload_n (pc := 10) F dX2_set_10 rfl ?_
  refine g_iconst (pc := 11) (v := 0) F dX2_set_11 (by decide) ?_
  refine g_puti (pc := 12) F fl_X2_16 rfl rfl (by assumption) rfl dX2_set_12 ?_
  refine g_aload_n (pc := 15) F dX2_set_15 rfl ?_
  refine g_iconst (pc := 16) (v := 0) F dX2_set_16 (by decide) ?_
  refine g_puti (pc := 17) F fl_X2_19 rfl rfl (by assumption) rfl dX2_set_17 ?_
  refine g_vret (pc := 20) F r dX2_set_20 ?_
  refine ⟨rfl, ?_⟩
  simp only [upd2_updr, updr_upd2, updr_self, updr_updr]
  refine congrArg (updr M q) (funext fun j => ?_)
  match j with
  | 0 | 1 | 2 | 3 => rfl
  | j + 4 => simp [upd, show ¬ j + 4 < 4 by omega]

set_option maxHeartbeats 4000000 in
set_option maxRecDepth 100000 in
theorem c_X2_copyFrom (l : Launch) (g : Gm) (M : Mem) (q q2 : Nat) (hk : kd q = 2) (hk2 : kd q2 = 2) (hne : q ≠ q2) : Cn l yX2_copyFrom cX2_copyFrom 2 none 0 0 g [.ref (ad g q), .ref (ad g q2)] M (fun v M2 => v = none ∧ M2 = updr M q (fun j => if j < 4 then M q2 j else M q j)) := by
  refine Cn.intro (lv0 := [some (.ref (ad g q)), some (.ref (ad g q2))]) 0 (by decide +kernel) (Nat.le_of_ble_eq_true rfl) rfl (fun X F r => ?_)
  refine g_aload_n (pc := 0) F dX2_copyFrom_0 rfl ?_
  refine g_aload_n (pc := 1) F dX2_copyFrom_1 rfl ?_
  refine g_geti (pc := 2) F fl_X2_7 (by assumption) rfl dX2_copyFrom_2 ?_
  refine g_puti (pc := 5) F fl_X2_7 rfl rfl (by assumption) rfl dX2_copyFrom_5 ?_
  refine g_aload_n (pc := 8) F dX2_copyFrom_8 rfl ?_
  refine g_aload_n (pc := 9) F dX2_copyFrom_9 rfl ?_
  refine g_geti (pc := 10) F fl_X2_13 (by assumption) rfl dX2_copyFrom_10 ?_
  refine g_puti (pc := 13) F fl_X2_13 rfl rfl (by assumption) rfl dX2_copyFrom_13 ?_
  refine g_aload_n (pc := 16) F dX2_copyFrom_16 rfl ?_
  refine g_aload_n (pc := 17) F dX2_copyFrom_17 rfl ?_
  refine g_geti (pc := 18) F fl_X2_16 (by assumption) rfl dX2_copyFrom_18 ?_
  refine g_puti (pc := 21) F fl_X2_16 rfl rfl (by assumption) rfl dX2_copyFrom_21 ?_
  refine g_aload_n (pc := 24) F dX2_copyFrom_24 rfl ?_
  refine g_aload_n (pc := 25) F dX2_copyFrom_25 rfl ?_
  refine g_geti (pc := 26) F fl_X2_19 (by assumption) rfl dX2_copyFrom_26 ?_
  refine g_puti (pc := 29) F fl_X2_19 rfl rfl (by assumption) rfl dX2_copyFrom_29 ?_
  refine g_vret (pc := 32) F r dX2_copyFrom_32 ?_
  refine ⟨rfl, ?_⟩
  simp only [upd2_updr, updr_upd2, updr_self, updr_updr, updr_ne _ _ hne.symm]
  refine congrArg (updr M q) (funext fun j => ?_)
  match j with
  | 0 | 1 | 2 | 3 => rfl
  | j + 4 => simp [upd, show ¬ j + 4 < 4 by omega]

def b2i (b : Prop) [Decidable b] : Int32 := if b then 1 else 0
set_option maxHeartbeats 4000000 in
set_option maxRecDepth 100000 in
theorem c_X2_has (l : Launch) (g : Gm) (M : Mem) (q : Nat) (hk : kd q = 2) (c : Int32) : Cn l yX2_has cX2_has 2 (some .boolean) 0 0 g [.ref (ad g q), .int c] M (fun v M2 => v = some (.int (b2i (¬ M q 1 &&& (1 <<< (c &&& 31)) = 0))) ∧ M2 = M) := by
  refine Cn.intro (lv0 := [some (.ref (ad g q)), some (.int c)]) 0 (by decide +kernel) (Nat.le_of_ble_eq_true rfl) rfl (fun X F r => ?_)
  refine g_aload_n (pc := 0) F dX2_has_0 rfl ?_
  refine g_geti (pc := 1) F fl_X2_13 (by assumption) rfl dX2_has_1 ?_
  refine g_iconst (pc := 4) (v := 1) F dX2_has_4 (by decide) ?_
  refine g_iload_n (pc := 5) F dX2_has_5 rfl ?_
  refine g_ishl (pc := 6) F dX2_has_6 ?_
  refine g_iand (pc := 7) F dX2_has_7 ?_
  refine g_if_eq (pc := 8) (tgt := 15) F dX2_has_8 (by decide) (fun c8 => ?_) (fun c8 => ?_)
  · refine g_iconst (pc := 15) (v := 0) F dX2_has_15 (by decide) ?_
    refine g_zret (pc := 16) F (by decide) r dX2_has_16 ?_
    refine ⟨?_, rfl⟩
    simp_all [b2i]
  · refine g_iconst (pc := 11) (v := 1) F dX2_has_11 (by decide) ?_
    refine g_goto (pc := 12) (tgt := 16) F dX2_has_12 (by decide) ?_
    refine g_zret (pc := 16) F (by decide) r dX2_has_16 ?_
    refine ⟨?_, rfl⟩
    simp_all [b2i]
end
section
/-! Integer.bitCount -/
def jbs (x : Int32) (n : Int32) : Int32 := (x.toUInt32 >>> (n.toUInt32 &&& Int32.toUInt32 31)).toInt32
def jb1 (x : Int32) : Int32 := x - (jbs x 1 &&& 1431655765)
def jb2 (x : Int32) : Int32 := (x &&& 858993459) + (jbs x 2 &&& 858993459)
def jb3 (x : Int32) : Int32 := (x + jbs x 4) &&& 252645135
def jb4 (x : Int32) : Int32 := x + jbs x 8
def jb5 (x : Int32) : Int32 := x + jbs x 16
def jbc (x : Int32) : Int32 := jb5 (jb4 (jb3 (jb2 (jb1 x)))) &&& 63
set_option maxHeartbeats 4000000 in
set_option maxRecDepth 100000 in
theorem c_J6_bitCount_0f7a4 (l : Launch) (g : Gm) (M : Mem) (x : Int32) : Cn l yJ6_bitCount_0f7a4 cJ6_bitCount_0f7a4 1 (some .int) 0 0 g [.int x] M (fun v M2 => v = some (.int (jbc x)) ∧ M2 = M) := by
  refine Cn.intro (lv0 := [some (.int x)]) 0 (by decide +kernel) (Nat.le_of_ble_eq_true rfl) rfl (fun X F r => ?_)
  refine g_iload_n (pc := 0) F dJ6_bitCount_0f7a4_0 rfl ?_
  refine g_iload_n (pc := 1) F dJ6_bitCount_0f7a4_1 rfl ?_
  refine g_iconst (pc := 2) (v := 1) F dJ6_bitCount_0f7a4_2 (by decide) ?_
  refine g_iushr (pc := 3) F dJ6_bitCount_0f7a4_3 rfl ?_
  refine g_ldcw (pc := 4) F wk_J6_265 dJ6_bitCount_0f7a4_4 ?_
  refine g_iand (pc := 7) F dJ6_bitCount_0f7a4_7 ?_
  refine g_isub (pc := 8) F dJ6_bitCount_0f7a4_8 ?_
  refine g_istore_n (pc := 9) F dJ6_bitCount_0f7a4_9 (by decide) rfl ?_
  refine g_iload_n (pc := 10) F dJ6_bitCount_0f7a4_10 rfl ?_
  refine g_ldcw (pc := 11) F wk_J6_266 dJ6_bitCount_0f7a4_11 ?_
  refine g_iand (pc := 14) F dJ6_bitCount_0f7a4_14 ?_
  refine g_iload_n (pc := 15) F dJ6_bitCount_0f7a4_15 rfl ?_
  refine g_iconst (pc := 16) (v := 2) F dJ6_bitCount_0f7a4_16 (by decide) ?_
  refine g_iushr (pc := 17) F dJ6_bitCount_0f7a4_17 rfl ?_
  refine g_ldcw (pc := 18) F wk_J6_266 dJ6_bitCount_0f7a4_18 ?_
  refine g_iand (pc := 21) F dJ6_bitCount_0f7a4_21 ?_
  refine g_iadd (pc := 22) F dJ6_bitCount_0f7a4_22 ?_
  refine g_istore_n (pc := 23) F dJ6_bitCount_0f7a4_23 (by decide) rfl ?_
  refine g_iload_n (pc := 24) F dJ6_bitCount_0f7a4_24 rfl ?_
  refine g_iload_n (pc := 25) F dJ6_bitCount_0f7a4_25 rfl ?_
  refine g_iconst (pc := 26) (v := 4) F dJ6_bitCount_0f7a4_26 (by decide) ?_
  refine g_iushr (pc := 27) F dJ6_bitCount_0f7a4_27 rfl ?_
  refine g_iadd (pc := 28) F dJ6_bitCount_0f7a4_28 ?_
  refine g_ldcw (pc := 29) F wk_J6_267 dJ6_bitCount_0f7a4_29 ?_
  refine g_iand (pc := 32) F dJ6_bitCount_0f7a4_32 ?_
  refine g_istore_n (pc := 33) F dJ6_bitCount_0f7a4_33 (by decide) rfl ?_
  refine g_iload_n (pc := 34) F dJ6_bitCount_0f7a4_34 rfl ?_
  refine g_iload_n (pc := 35) F dJ6_bitCount_0f7a4_35 rfl ?_
  refine g_bipush (pc := 36) (v := 8) F dJ6_bitCount_0f7a4_36 (by decide) ?_
  refine g_iushr (pc := 38) F dJ6_bitCount_0f7a4_38 rfl ?_
  refine g_iadd (pc := 39) F dJ6_bitCount_0f7a4_39 ?_
  refine g_istore_n (pc := 40) F dJ6_bitCount_0f7a4_40 (by decide) rfl ?_
  refine g_iload_n (pc := 41) F dJ6_bitCount_0f7a4_41 rfl ?_
  refine g_iload_n (pc := 42) F dJ6_bitCount_0f7a4_42 rfl ?_
  refine g_bipush (pc := 43) (v := 16) F dJ6_bitCount_0f7a4_43 (by decide) ?_
  refine g_iushr (pc := 45) F dJ6_bitCount_0f7a4_45 rfl ?_
  refine g_iadd (pc := 46) F dJ6_bitCount_0f7a4_46 ?_
  refine g_istore_n (pc := 47) F dJ6_bitCount_0f7a4_47 (by decide) rfl ?_
  refine g_iload_n (pc := 48) F dJ6_bitCount_0f7a4_48 rfl ?_
  refine g_bipush (pc := 49) (v := 63) F dJ6_bitCount_0f7a4_49 (by decide) ?_
  refine g_iand (pc := 51) F dJ6_bitCount_0f7a4_51 ?_
  refine g_iret (pc := 52) F r dJ6_bitCount_0f7a4_52 ?_
  exact ⟨rfl, rfl⟩

set_option maxHeartbeats 4000000 in
set_option maxRecDepth 100000 in
theorem c_X2_size (l : Launch) (g : Gm) (M : Mem) (q : Nat) (hk : kd q = 2) : Cn l yX2_size cX2_size 1 (some .int) 1 20 g [.ref (ad g q)] M (fun v M2 => v = some (.int (jbc (M q 1))) ∧ M2 = M) := by
  refine Cn.intro (lv0 := [some (.ref (ad g q))]) 0 (by decide +kernel) (Nat.le_of_ble_eq_true rfl) rfl (fun X F r => ?_)
  refine g_aload_n (pc := 0) F dX2_size_0 rfl ?_
  refine g_geti (pc := 1) F fl_X2_13 (by assumption) rfl dX2_size_1 ?_
  refine g_callS (pc := 4) (rf2 := 0) (rl2 := 0) F cs_X2_22 (by rfl) (by rfl) (Nat.le_of_ble_eq_true (by rfl)) (by decide) dX2_size_4 (c_J6_bitCount_0f7a4 _ g _ _) (fun v M2 hz => ?_)
  obtain ⟨rfl, h2⟩ := hz
  rw [h2]
  refine g_iret (pc := 7) F r dX2_size_7 ?_
  exact ⟨rfl, rfl⟩

/-- a group's row when a tick ends at which the clocks z have told -/
def gtick (r : Nat → Int32) (z : Int32) : Nat → Int32 := fun j => if j = 2 then r 2 + jbc (r 1 &&& z) else if j = 3 then (if jbc (r 1 &&& z) < 2 then r 3 else r 3 + 1) else r j
theorem g_top {X : XT} {g : Gm} {nL : Nat} {M : Mem} {pc : Nat} {lv : List (Option Value)} {st : List Value} {x : Int32} (k : ∀ y : Int32, y = x → G X g nL M pc lv (.int y :: st)) : G X g nL M pc lv (.int x :: st) := k x rfl
theorem g_stk {X : XT} {g : Gm} {nL : Nat} {M : Mem} {pc : Nat} {lv : List (Option Value)} {st st' : List Value} (h : st = st') (k : G X g nL M pc lv st') : G X g nL M pc lv st := h ▸ k
set_option maxHeartbeats 4000000 in
set_option maxRecDepth 100000 in
theorem c_X2_passTick (l : Launch) (g : Gm) (M : Mem) (q : Nat) (hk : kd q = 2) (z : Int32) : Cn l yX2_passTick cX2_passTick 3 none 1 20 g [.ref (ad g q), .int z] M (fun v M2 => v = none ∧ M2 = updr M q (gtick (M q) z)) := by
  refine Cn.intro (lv0 := [some (.ref (ad g q)), some (.int z), none]) 1 (by decide +kernel) (Nat.le_of_ble_eq_true rfl) rfl (fun X F r => ?_)
  refine g_aload_n (pc := 0) F dX2_passTick_0 rfl ?_
  refine g_geti (pc := 1) F fl_X2_13 (by assumption) rfl dX2_passTick_1 ?_
  refine g_iload_n (pc := 4) F dX2_passTick_4 rfl ?_
  refine g_iand (pc := 5) F dX2_passTick_5 ?_
  refine g_callS (pc := 6) (rf2 := 0) (rl2 := 0) F cs_X2_22 (by rfl) (by rfl) (Nat.le_of_ble_eq_true (by rfl)) (by decide) dX2_passTick_6 (c_J6_bitCount_0f7a4 _ g _ _) (fun v M2 hz => ?_)
  obtain ⟨rfl, h2⟩ := hz
  rw [h2]
  refine g_top (pc := 9) (fun y hy => ?_)
  refine g_istore_n (pc := 9) F dX2_passTick_9 (by decide) rfl ?_
  refine g_aload_n (pc := 10) F dX2_passTick_10 rfl ?_
  refine g_dup (pc := 11) F dX2_passTick_11 rfl ?_
  refine g_geti (pc := 12) F fl_X2_16 (by assumption) rfl dX2_passTick_12 ?_
  refine g_iload_n (pc := 15) F dX2_passTick_15 rfl ?_
  refine g_iadd (pc := 16) F dX2_passTick_16 ?_
  refine g_puti (pc := 17) F fl_X2_16 rfl rfl (by assumption) rfl dX2_passTick_17 ?_
  refine g_iload_n (pc := 20) F dX2_passTick_20 rfl ?_
  refine g_iconst (pc := 21) (v := 2) F dX2_passTick_21 (by decide) ?_
  refine g_icmp_lt (pc := 22) (tgt := 35) F dX2_passTick_22 (by decide) (fun c22 => ?_) (fun c22 => ?_)
  · refine g_vret (pc := 35) F r dX2_passTick_35 ?_
    refine ⟨rfl, ?_⟩
    simp only [upd2_updr, updr_upd2, updr_self, updr_updr]
    refine congrArg (updr M q) (funext fun j => ?_)
    subst hy
    by_cases h2 : j = 2 <;> by_cases h3 : j = 3 <;> simp_all [upd, gtick]
  · refine g_aload_n (pc := 25) F dX2_passTick_25 rfl ?_
    refine g_dup (pc := 26) F dX2_passTick_26 rfl ?_
    refine g_geti (pc := 27) F fl_X2_19 (by assumption) rfl dX2_passTick_27 ?_
    refine g_iconst (pc := 30) (v := 1) F dX2_passTick_30 (by decide) ?_
    refine g_iadd (pc := 31) F dX2_passTick_31 ?_
    refine g_puti (pc := 32) F fl_X2_19 rfl rfl (by assumption) rfl dX2_passTick_32 ?_
    refine g_vret (pc := 35) F r dX2_passTick_35 ?_
    refine ⟨rfl, ?_⟩
    simp only [upd2_updr, updr_upd2, updr_self, updr_updr]
    refine congrArg (updr M q) (funext fun j => ?_)
    subst hy
    by_cases h2 : j = 2 <;> by_cases h3 : j = 3 <;> simp_all [upd, gtick]

/-! Clock: the rows c (fields), c + 1 (numbers), c + 2 (told), c + 3 (round) -/
def radc (r : Nat → Int32) (x : Int32) : Nat → Int32 := if 0 < x then radd r x 1 else r
def radcs (r : Nat → Int32) (f : Nat → Int32) : Nat → (Nat → Int32)
  | 0 => r
  | i + 1 => radc (radcs r f i) (f i)
/-- the tally of one round of a law -/
def rndR (r : Nat → Int32) (law : Int32) (f : Nat → Int32) : Nat → Int32 := if law = 2 then radd (radd r (f 0) (f 1)) (f 2) 1 else radcs r f 4
set_option maxHeartbeats 4000000 in
set_option maxRecDepth 100000 in
theorem c_X0_fillRound (l : Launch) (g : Gm) (M : Mem) (c : Nat) (hk : kd c = 0) : Cn l yX0_fillRound cX0_fillRound 2 none 1 22 g [.ref (ad g c)] M (fun v M2 => v = none ∧ M2 = updr M (c + 3) (rndR (rzero (M (c + 3))) (M c 0) (M (c + 1)))) := by
  refine Cn.intro (lv0 := [some (.ref (ad g c)), none]) 1 (by decide +kernel) (Nat.le_of_ble_eq_true rfl) rfl (fun X F r => ?_)
  obtain ⟨hk1, hk2, hk3⟩ := kd_clk hk
  have L : ¬ M c 0 = 2 → ∀ (n i : Nat) (x : Int32), i + n = 4 → x = nI i → G X g 2 (updr M (c + 3) (radcs (rzero (M (c + 3))) (M (c + 1)) i)) 51 [some (.ref (ad g c)), some (.int x)] [] := by
    intro hl n
    induction n with
    | zero =>
      intro i x hi hx
      obtain rfl : i = 4 := by omega
      refine g_iload_n (pc := 51) F dX0_fillRound_51 rfl ?_
      refine g_aload_n (pc := 52) F dX0_fillRound_52 rfl ?_
      refine g_getr (pc := 53) F fl_X0_9 (by assumption) rfl dX0_fillRound_53 ?_
      refine g_alen (pc := 56) F (by assumption) rfl (v := 4) (by decide) dX0_fillRound_56 ?_
      refine g_icmp_ge (pc := 57) (tgt := 89) F dX0_fillRound_57 (by decide) (fun c57 => ?_) (fun c57 => ?_)
      · refine g_vret (pc := 89) F r dX0_fillRound_89 ?_
        refine ⟨rfl, ?_⟩
        rw [show rndR (rzero (M (c + 3))) (M c 0) (M (c + 1)) = radcs (rzero (M (c + 3))) (M (c + 1)) 4 from if_neg hl]
      · exact absurd (by rw [hx]; decide) c57
    | succ n ih =>
      intro i x hi hx
      refine g_iload_n (pc := 51) F dX0_fillRound_51 rfl ?_
      refine g_aload_n (pc := 52) F dX0_fillRound_52 rfl ?_
      refine g_getr (pc := 53) F fl_X0_9 (by assumption) rfl dX0_fillRound_53 ?_
      refine g_alen (pc := 56) F (by assumption) rfl (v := 4) (by decide) dX0_fillRound_56 ?_
      refine g_icmp_ge (pc := 57) (tgt := 89) F dX0_fillRound_57 (by decide) (fun c57 => ?_) (fun c57 => ?_)
      · exact absurd c57 (by rw [hx]; exact nI_ge (a := i) (b := 4) (by omega) (by decide))
      · refine g_aload_n (pc := 60) F dX0_fillRound_60 rfl ?_
        refine g_getr (pc := 61) F fl_X0_9 (by assumption) rfl dX0_fillRound_61 ?_
        refine g_iload_n (pc := 64) F dX0_fillRound_64 rfl ?_
        refine g_iald (pc := 65) F (by assumption) rfl (by assumption) (by omega) dX0_fillRound_65 ?_
        refine g_if_le (pc := 66) (tgt := 83) F dX0_fillRound_66 (by decide) (fun c66 => ?_) (fun c66 => ?_)
        · rw [updr_ne _ _ (show c + 1 ≠ c + 3 by omega)] at c66
          refine g_iinc (pc := 83) F dX0_fillRound_83 rfl rfl (by decide) rfl ?_
          refine g_goto (pc := 86) (tgt := 51) F dX0_fillRound_86 (by decide) ?_
          refine G.mem ?_ (ih (i + 1) _ (by omega) (by rw [hx]; exact nI_1 i))
          simp only [radcs, radc, updr_updr, updr_self, updr_ne _ _ (show c + 1 ≠ c + 3 by omega)]
          first | rw [if_pos (Int32.not_le.mp c66)] | rw [if_neg (Int32.not_lt.mpr c66)]
        · rw [updr_ne _ _ (show c + 1 ≠ c + 3 by omega)] at c66
          refine g_aload_n (pc := 69) F dX0_fillRound_69 rfl ?_
          refine g_getr (pc := 70) F fl_X0_22 (by assumption) rfl dX0_fillRound_70 ?_
          refine g_aload_n (pc := 73) F dX0_fillRound_73 rfl ?_
          refine g_getr (pc := 74) F fl_X0_9 (by assumption) rfl dX0_fillRound_74 ?_
          refine g_iload_n (pc := 77) F dX0_fillRound_77 rfl ?_
          refine g_iald (pc := 78) F (by assumption) rfl (by assumption) (by omega) dX0_fillRound_78 ?_
          refine g_iconst (pc := 79) (v := 1) F dX0_fillRound_79 (by decide) ?_
          refine g_callV (pc := 80) (rf2 := 0) (rl2 := 0) F cs_X0_53 (by assumption) rfl (by decide) (by rfl) (by rfl) (Nat.le_of_ble_eq_true (by rfl)) (by decide) dX0_fillRound_80 (c_X1_add _ g _ (c + 3) hk3 _ _) (fun v M2 hz => ?_)
          obtain ⟨rfl, rfl⟩ := hz
          refine g_iinc (pc := 83) F dX0_fillRound_83 rfl rfl (by decide) rfl ?_
          refine g_goto (pc := 86) (tgt := 51) F dX0_fillRound_86 (by decide) ?_
          refine G.mem ?_ (ih (i + 1) _ (by omega) (by rw [hx]; exact nI_1 i))
          simp only [radcs, radc, updr_updr, updr_self, updr_ne _ _ (show c + 1 ≠ c + 3 by omega)]
          first | rw [if_pos (Int32.not_le.mp c66)] | rw [if_neg (Int32.not_lt.mpr c66)]
  refine g_aload_n (pc := 0) F dX0_fillRound_0 rfl ?_
  refine g_getr (pc := 1) F fl_X0_22 (by assumption) rfl dX0_fillRound_1 ?_
  refine g_callV (pc := 4) (rf2 := 0) (rl2 := 0) F cs_X0_47 (by assumption) rfl (by decide) (by rfl) (by rfl) (Nat.le_of_ble_eq_true (by rfl)) (by decide) dX0_fillRound_4 (c_X1_empty _ g _ (c + 3) hk3) (fun v M2 hz => ?_)
  obtain ⟨rfl, rfl⟩ := hz
  refine g_aload_n (pc := 7) F dX0_fillRound_7 rfl ?_
  refine g_geti (pc := 8) F fl_X0_25 (by assumption) rfl dX0_fillRound_8 ?_
  refine g_iconst (pc := 11) (v := 2) F dX0_fillRound_11 (by decide) ?_
  refine g_icmp_ne (pc := 12) (tgt := 49) F dX0_fillRound_12 (by decide) (fun c12 => ?_) (fun c12 => ?_)
  · refine g_iconst (pc := 49) (v := 0) F dX0_fillRound_49 (by decide) ?_
    refine g_istore_n (pc := 50) F dX0_fillRound_50 (by decide) rfl ?_
    exact L (by simpa only [updr_updr, updr_self, updr_ne _ _ (show c ≠ c + 3 by omega), updr_ne _ _ (show c + 1 ≠ c + 3 by omega)] using c12) 4 0 0 rfl nI_0.symm
  · refine g_aload_n (pc := 15) F dX0_fillRound_15 rfl ?_
    refine g_getr (pc := 16) F fl_X0_22 (by assumption) rfl dX0_fillRound_16 ?_
    refine g_aload_n (pc := 19) F dX0_fillRound_19 rfl ?_
    refine g_getr (pc := 20) F fl_X0_9 (by assumption) rfl dX0_fillRound_20 ?_
    refine g_iconst (pc := 23) (v := 0) F dX0_fillRound_23 (by decide) ?_
    refine g_iald (pc := 24) (q := 0) F (by assumption) rfl (by decide) (by decide) dX0_fillRound_24 ?_
    refine g_aload_n (pc := 25) F dX0_fillRound_25 rfl ?_
    refine g_getr (pc := 26) F fl_X0_9 (by assumption) rfl dX0_fillRound_26 ?_
    refine g_iconst (pc := 29) (v := 1) F dX0_fillRound_29 (by decide) ?_
    refine g_iald (pc := 30) (q := 1) F (by assumption) rfl (by decide) (by decide) dX0_fillRound_30 ?_
    refine g_callV (pc := 31) (rf2 := 0) (rl2 := 0) F cs_X0_53 (by assumption) rfl (by decide) (by rfl) (by rfl) (Nat.le_of_ble_eq_true (by rfl)) (by decide) dX0_fillRound_31 (c_X1_add _ g _ (c + 3) hk3 _ _) (fun v M2 hz => ?_)
    obtain ⟨rfl, rfl⟩ := hz
    refine g_aload_n (pc := 34) F dX0_fillRound_34 rfl ?_
    refine g_getr (pc := 35) F fl_X0_22 (by assumption) rfl dX0_fillRound_35 ?_
    refine g_aload_n (pc := 38) F dX0_fillRound_38 rfl ?_
    refine g_getr (pc := 39) F fl_X0_9 (by assumption) rfl dX0_fillRound_39 ?_
    refine g_iconst (pc := 42) (v := 2) F dX0_fillRound_42 (by decide) ?_
    refine g_iald (pc := 43) (q := 2) F (by assumption) rfl (by decide) (by decide) dX0_fillRound_43 ?_
    refine g_iconst (pc := 44) (v := 1) F dX0_fillRound_44 (by decide) ?_
    refine g_callV (pc := 45) (rf2 := 0) (rl2 := 0) F cs_X0_53 (by assumption) rfl (by decide) (by rfl) (by rfl) (Nat.le_of_ble_eq_true (by rfl)) (by decide) dX0_fillRound_45 (c_X1_add _ g _ (c + 3) hk3 _ _) (fun v M2 hz => ?_)
    obtain ⟨rfl, rfl⟩ := hz
    refine g_vret (pc := 48) F r dX0_fillRound_48 ?_
    refine ⟨rfl, ?_⟩
    simp only [updr_updr, updr_self, updr_ne _ _ (show c ≠ c + 3 by omega), updr_ne _ _ (show c + 1 ≠ c + 3 by omega)] at c12 ⊢
    rw [show rndR (rzero (M (c + 3))) (M c 0) (M (c + 1)) = radd (radd (rzero (M (c + 3))) (M (c + 1) 0) (M (c + 1) 1)) (M (c + 1) 2) 1 from if_pos c12]

def csetF (r : Nat → Int32) (la : Int32) : Nat → Int32 := fun j => if j = 0 then la else if j = 2 then -1 else if j = 3 then 0 else if j = 4 then 0 else if j = 5 then 0 else if j = 6 then 0 else if j = 7 then 0 else r j
def nset (r : Nat → Int32) (a b c d : Int32) : Nat → Int32 := fun j => if j = 0 then a else if j = 1 then b else if j = 2 then c else if j = 3 then d else r j
def csetM (M : Mem) (k : Nat) (la a b c d : Int32) : Mem := updr (updr (updr (updr M (k + 1) (nset (M (k + 1)) a b c d)) k (csetF (M k) la)) (k + 2) (rzero (M (k + 2)))) (k + 3) (rndR (rzero (M (k + 3))) la (nset (M (k + 1)) a b c d))
set_option maxHeartbeats 4000000 in
set_option maxRecDepth 100000 in
theorem c_X0_set (l : Launch) (g : Gm) (M : Mem) (k : Nat) (hk : kd k = 0) (la a b c d : Int32) : Cn l yX0_set cX0_set 6 none 2 43 g [.ref (ad g k), .int la, .int a, .int b, .int c, .int d] M (fun v M2 => v = none ∧ M2 = csetM M k la a b c d) := by
  refine Cn.intro (lv0 := [some (.ref (ad g k)), some (.int la), some (.int a), some (.int b), some (.int c), some (.int d)]) 0 (by decide +kernel) (Nat.le_of_ble_eq_true rfl) rfl (fun X F r => ?_)
  obtain ⟨hk1, hk2, hk3⟩ := kd_clk hk
  have hA : ∀ (M1 : Mem), M1 = updr (updr M (k + 1) (nset (M (k + 1)) a b c d)) k (csetF (M k) la) → G X g 6 M1 65 [some (.ref (ad g k)), some (.int la), some (.int a), some (.int b), some (.int c), some (.int d)] [] := by
    intro M1 hM1
    refine g_aload_n (pc := 65) F dX0_set_65 rfl ?_
    refine g_getr (pc := 66) F fl_X0_18 (by assumption) rfl dX0_set_66 ?_
    refine g_callV (pc := 69) (rf2 := 0) (rl2 := 0) F cs_X0_47 (by assumption) rfl (by decide) (by rfl) (by rfl) (Nat.le_of_ble_eq_true (by rfl)) (by decide) dX0_set_69 (c_X1_empty _ g _ (k + 2) hk2) (fun v M2 hz => ?_)
    obtain ⟨rfl, rfl⟩ := hz
    refine g_aload_n (pc := 72) F dX0_set_72 rfl ?_
    refine g_callV (pc := 73) (rf2 := 1) (rl2 := 22) F cs_X0_50 (by assumption) rfl (by decide) (by rfl) (by rfl) (Nat.le_of_ble_eq_true (by rfl)) (by decide) dX0_set_73 (c_X0_fillRound _ g _ k hk) (fun v M2 hz => ?_)
    obtain ⟨rfl, rfl⟩ := hz
    refine g_vret (pc := 76) F r dX0_set_76 ?_
    refine ⟨rfl, ?_⟩
    subst hM1
    unfold csetM
    simp only [updr_self, updr_ne _ _ (show k ≠ k + 2 by omega), updr_ne _ _ (show k + 1 ≠ k + 2 by omega), updr_ne _ _ (show k + 1 ≠ k by omega), updr_ne _ _ (show k + 2 ≠ k by omega), updr_ne _ _ (show k + 2 ≠ k + 1 by omega), updr_ne _ _ (show k + 3 ≠ k by omega), updr_ne _ _ (show k + 3 ≠ k + 1 by omega), updr_ne _ _ (show k + 3 ≠ k + 2 by omega)]
    rfl
  refine g_aload_n (pc := 0) F dX0_set_0 rfl ?_
  refine g_iload_n (pc := 1) F dX0_set_1 rfl ?_
  refine g_puti (pc := 2) F fl_X0_25 rfl rfl (by assumption) rfl dX0_set_2 ?_
  refine g_aload_n (pc := 5) F dX0_set_5 rfl ?_
  refine g_getr (pc := 6) F fl_X0_9 (by assumption) rfl dX0_set_6 ?_
  refine g_iconst (pc := 9) (v := 0) F dX0_set_9 (by decide) ?_
  refine g_iload_n (pc := 10) F dX0_set_10 rfl ?_
  refine g_iast (pc := 11) (q := 0) F (by assumption) rfl (by decide) (by decide) dX0_set_11 ?_
  refine g_aload_n (pc := 12) F dX0_set_12 rfl ?_
  refine g_getr (pc := 13) F fl_X0_9 (by assumption) rfl dX0_set_13 ?_
  refine g_iconst (pc := 16) (v := 1) F dX0_set_16 (by decide) ?_
  refine g_iload_n (pc := 17) F dX0_set_17 rfl ?_
  refine g_iast (pc := 18) (q := 1) F (by assumption) rfl (by decide) (by decide) dX0_set_18 ?_
  refine g_aload_n (pc := 19) F dX0_set_19 rfl ?_
  refine g_getr (pc := 20) F fl_X0_9 (by assumption) rfl dX0_set_20 ?_
  refine g_iconst (pc := 23) (v := 2) F dX0_set_23 (by decide) ?_
  refine g_iload (pc := 24) F dX0_set_24 rfl ?_
  refine g_iast (pc := 26) (q := 2) F (by assumption) rfl (by decide) (by decide) dX0_set_26 ?_
  refine g_aload_n (pc := 27) F dX0_set_27 rfl ?_
  refine g_getr (pc := 28) F fl_X0_9 (by assumption) rfl dX0_set_28 ?_
  refine g_iconst (pc := 31) (v := 3) F dX0_set_31 (by decide) ?_
  refine g_iload (pc := 32) F dX0_set_32 rfl ?_
  refine g_iast (pc := 34) (q := 3) F (by assumption) rfl (by decide) (by decide) dX0_set_34 ?_
  refine g_aload_n (pc := 35) F dX0_set_35 rfl ?_
  refine g_iconst (pc := 36) (v := -1) F dX0_set_36 (by decide) ?_
  refine g_puti (pc := 37) F fl_X0_29 rfl rfl (by assumption) rfl dX0_set_37 ?_
  refine g_aload_n (pc := 40) F dX0_set_40 rfl ?_
  refine g_iconst (pc := 41) (v := 0) F dX0_set_41 (by decide) ?_
  refine g_puti (pc := 42) F fl_X0_32 rfl rfl (by assumption) rfl dX0_set_42 ?_
  refine g_aload_n (pc := 45) F dX0_set_45 rfl ?_
  refine g_iconst (pc := 46) (v := 0) F dX0_set_46 (by decide) ?_
  refine g_puti (pc := 47) F fl_X0_35 rfl rfl (by assumption) rfl dX0_set_47 ?_
  refine g_aload_n (pc := 50) F dX0_set_50 rfl ?_
  refine g_iconst (pc := 51) (v := 0) F dX0_set_51 (by decide) ?_
  refine g_puti (pc := 52) F fl_X0_38 rfl rfl (by assumption) rfl dX0_set_52 ?_
  refine g_aload_n (pc := 55) F dX0_set_55 rfl ?_
  refine g_iconst (pc := 56) (v := 0) F dX0_set_56 (by decide) ?_
  refine g_puti (pc := 57) F fl_X0_41 rfl rfl (by assumption) rfl dX0_set_57 ?_
  refine g_aload_n (pc := 60) F dX0_set_60 rfl ?_
  refine g_iconst (pc := 61) (v := 0) F dX0_set_61 (by decide) ?_
  refine g_puti (pc := 62) F fl_X0_44 rfl rfl (by assumption) rfl dX0_set_62 ?_
  refine hA _ ?_
  funext x y
  simp only [upd2_get, updr_get, csetF, nset]
  by_cases h1 : x = k
  · subst h1
    simp only [if_true, show ¬ x = x + 1 by omega, show ¬ x + 1 = x by omega, if_false]
    by_cases h0 : y = 0 <;> by_cases h2 : y = 2 <;> by_cases h3 : y = 3 <;> by_cases h4 : y = 4 <;> by_cases h5 : y = 5 <;> by_cases h6 : y = 6 <;> by_cases h7 : y = 7 <;> simp [h0, h2, h3, h4, h5, h6, h7]
  · by_cases hx : x = k + 1
    · subst hx
      simp only [if_true, show ¬ k + 1 = k by omega, show ¬ k = k + 1 by omega, if_false]
      by_cases h0 : y = 0 <;> by_cases h2 : y = 2 <;> by_cases h3 : y = 3 <;> by_cases h4 : y = 1 <;> simp [h0, h2, h3, h4]
    · simp [h1, hx]

def ccpF (r r2 : Nat → Int32) : Nat → Int32 := fun j => if j = 0 then r2 0 else if j = 2 then r2 2 else if j = 3 then r2 3 else if j = 4 then r2 4 else if j = 5 then r2 5 else if j = 6 then r2 6 else if j = 7 then r2 7 else r j
def ccpM (M : Mem) (k o : Nat) : Mem := updr (updr (updr (updr M (k + 1) (va_cpy (M (o + 1)) (M (k + 1)) 0 0 4)) k (ccpF (M k) (M o))) (k + 2) (rcopy (M (k + 2)) (M (o + 2)))) (k + 3) (rcopy (M (k + 3)) (M (o + 3)))
set_option maxHeartbeats 4000000 in
set_option maxRecDepth 100000 in
theorem c_X0_copyFrom (l : Launch) (g : Gm) (M : Mem) (k o : Nat) (hk : kd k = 0) (ho : kd o = 0) (hd1 : k + 4 ≤ o ∨ o + 4 ≤ k) : Cn l yX0_copyFrom cX0_copyFrom 2 none 1 40 g [.ref (ad g k), .ref (ad g o)] M (fun v M2 => v = none ∧ M2 = ccpM M k o) := by
  refine Cn.intro (lv0 := [some (.ref (ad g k)), some (.ref (ad g o))]) 0 (by decide +kernel) (Nat.le_of_ble_eq_true rfl) rfl (fun X F r => ?_)
  obtain ⟨hk1, hk2, hk3⟩ := kd_clk hk
  obtain ⟨ho1, ho2, ho3⟩ := kd_clk ho
  have hA : ∀ (M1 : Mem), M1 = updr (updr M (k + 1) (va_cpy (M (o + 1)) (M (k + 1)) 0 0 4)) k (ccpF (M k) (M o)) → G X g 2 M1 70 [some (.ref (ad g k)), some (.ref (ad g o))] [] := by
    intro M1 hM1
    refine g_aload_n (pc := 70) F dX0_copyFrom_70 rfl ?_
    refine g_getr (pc := 71) F fl_X0_18 (by assumption) rfl dX0_copyFrom_71 ?_
    refine g_aload_n (pc := 74) F dX0_copyFrom_74 rfl ?_
    refine g_getr (pc := 75) F fl_X0_18 (by assumption) rfl dX0_copyFrom_75 ?_
    refine g_callV (pc := 78) (rf2 := 0) (rl2 := 0) F cs_X0_63 (by assumption) rfl (by decide) (by rfl) (by rfl) (Nat.le_of_ble_eq_true (by rfl)) (by decide) dX0_copyFrom_78 (c_X1_copyFrom _ g _ (k + 2) (o + 2) hk2 ho2 (by omega)) (fun v M2 hz => ?_)
    obtain ⟨rfl, rfl⟩ := hz
    refine g_aload_n (pc := 81) F dX0_copyFrom_81 rfl ?_
    refine g_getr (pc := 82) F fl_X0_22 (by assumption) rfl dX0_copyFrom_82 ?_
    refine g_aload_n (pc := 85) F dX0_copyFrom_85 rfl ?_
    refine g_getr (pc := 86) F fl_X0_22 (by assumption) rfl dX0_copyFrom_86 ?_
    refine g_callV (pc := 89) (rf2 := 0) (rl2 := 0) F cs_X0_63 (by assumption) rfl (by decide) (by rfl) (by rfl) (Nat.le_of_ble_eq_true (by rfl)) (by decide) dX0_copyFrom_89 (c_X1_copyFrom _ g _ (k + 3) (o + 3) hk3 ho3 (by omega)) (fun v M2 hz => ?_)
    obtain ⟨rfl, rfl⟩ := hz
    refine g_vret (pc := 92) F r dX0_copyFrom_92 ?_
    refine ⟨rfl, ?_⟩
    subst hM1
    unfold ccpM
    simp only [updr_ne _ _ (show k + 2 ≠ k by omega), updr_ne _ _ (show k + 2 ≠ k + 1 by omega), updr_ne _ _ (show k + 3 ≠ k by omega), updr_ne _ _ (show k + 3 ≠ k + 1 by omega), updr_ne _ _ (show k + 3 ≠ k + 2 by omega), updr_ne _ _ (show o + 2 ≠ k by omega), updr_ne _ _ (show o + 2 ≠ k + 1 by omega), updr_ne _ _ (show o + 3 ≠ k by omega), updr_ne _ _ (show o + 3 ≠ k + 1 by omega), updr_ne _ _ (show o + 3 ≠ k + 2 by omega)]
  refine g_aload_n (pc := 0) F dX0_copyFrom_0 rfl ?_
  refine g_aload_n (pc := 1) F dX0_copyFrom_1 rfl ?_
  refine g_geti (pc := 2) F fl_X0_25 (by assumption) rfl dX0_copyFrom_2 ?_
  refine g_puti (pc := 5) F fl_X0_25 rfl rfl (by assumption) rfl dX0_copyFrom_5 ?_
  refine g_aload_n (pc := 8) F dX0_copyFrom_8 rfl ?_
  refine g_getr (pc := 9) F fl_X0_9 (by assumption) rfl dX0_copyFrom_9 ?_
  refine g_iconst (pc := 12) (v := 0) F dX0_copyFrom_12 (by decide) ?_
  refine g_aload_n (pc := 13) F dX0_copyFrom_13 rfl ?_
  refine g_getr (pc := 14) F fl_X0_9 (by assumption) rfl dX0_copyFrom_14 ?_
  refine g_iconst (pc := 17) (v := 0) F dX0_copyFrom_17 (by decide) ?_
  refine g_iconst (pc := 18) (v := 4) F dX0_copyFrom_18 (by decide) ?_
  refine g_copy4 (pc := 19) F ho1 hk1 ⟨wl_X0_57, wn_arraycopy, wt_arraycopy, wz_J10⟩ (by decide) (by decide) dX0_copyFrom_19 ?_
  refine g_aload_n (pc := 22) F dX0_copyFrom_22 rfl ?_
  refine g_aload_n (pc := 23) F dX0_copyFrom_23 rfl ?_
  refine g_geti (pc := 24) F fl_X0_29 (by assumption) rfl dX0_copyFrom_24 ?_
  refine g_puti (pc := 27) F fl_X0_29 rfl rfl (by assumption) rfl dX0_copyFrom_27 ?_
  refine g_aload_n (pc := 30) F dX0_copyFrom_30 rfl ?_
  refine g_aload_n (pc := 31) F dX0_copyFrom_31 rfl ?_
  refine g_geti (pc := 32) F fl_X0_32 (by assumption) rfl dX0_copyFrom_32 ?_
  refine g_puti (pc := 35) F fl_X0_32 rfl rfl (by assumption) rfl dX0_copyFrom_35 ?_
  refine g_aload_n (pc := 38) F dX0_copyFrom_38 rfl ?_
  refine g_aload_n (pc := 39) F dX0_copyFrom_39 rfl ?_
  refine g_geti (pc := 40) F fl_X0_35 (by assumption) rfl dX0_copyFrom_40 ?_
  refine g_puti (pc := 43) F fl_X0_35 rfl rfl (by assumption) rfl dX0_copyFrom_43 ?_
  refine g_aload_n (pc := 46) F dX0_copyFrom_46 rfl ?_
  refine g_aload_n (pc := 47) F dX0_copyFrom_47 rfl ?_
  refine g_geti (pc := 48) F fl_X0_38 (by assumption) rfl dX0_copyFrom_48 ?_
  refine g_puti (pc := 51) F fl_X0_38 rfl rfl (by assumption) rfl dX0_copyFrom_51 ?_
  refine g_aload_n (pc := 54) F dX0_copyFrom_54 rfl ?_
  refine g_aload_n (pc := 55) F dX0_copyFrom_55 rfl ?_
  refine g_geti (pc := 56) F fl_X0_41 (by assumption) rfl dX0_copyFrom_56 ?_
  refine g_puti (pc := 59) F fl_X0_41 rfl rfl (by assumption) rfl dX0_copyFrom_59 ?_
  refine g_aload_n (pc := 62) F dX0_copyFrom_62 rfl ?_
  refine g_aload_n (pc := 63) F dX0_copyFrom_63 rfl ?_
  refine g_geti (pc := 64) F fl_X0_44 (by assumption) rfl dX0_copyFrom_64 ?_
  refine g_puti (pc := 67) F fl_X0_44 rfl rfl (by assumption) rfl dX0_copyFrom_67 ?_
  refine hA _ ?_
  funext x y
  have e1 : ¬ o = k := by omega
  have e2 : ¬ o = k + 1 := by omega
  simp only [upd2_get, updr_get, ccpF]
  by_cases h1 : x = k
  · subst h1
    simp only [if_true, show ¬ x = x + 1 by omega, show ¬ x + 1 = x by omega, if_false, e1, e2]
    by_cases h0 : y = 0 <;> by_cases h2 : y = 2 <;> by_cases h3 : y = 3 <;> by_cases h4 : y = 4 <;> by_cases h5 : y = 5 <;> by_cases h6 : y = 6 <;> by_cases h7 : y = 7 <;> simp [h0, h2, h3, h4, h5, h6, h7]
  · by_cases hx : x = k + 1
    · subst hx
      have e4 : ¬ o + 1 = k := by omega
      have e5 : upd2 M k 0 (M o 0) (o + 1) = M (o + 1) := upd2_k M 0 _ e4
      have e6 : upd2 M k 0 (M o 0) (k + 1) = M (k + 1) := upd2_k M 0 _ (by omega)
      simp only [if_true, show ¬ k + 1 = k by omega, show ¬ k = k + 1 by omega, if_false, e5, e6]
    · simp [h1, hx]

set_option maxHeartbeats 4000000 in
set_option maxRecDepth 100000 in
theorem c_X0_age (l : Launch) (g : Gm) (M : Mem) (k : Nat) (hk : kd k = 0) : Cn l yX0_age cX0_age 1 (some .int) 0 0 g [.ref (ad g k)] M (fun v M2 => v = some (.int (M k 3 - M k 4)) ∧ M2 = M) := by
  refine Cn.intro (lv0 := [some (.ref (ad g k))]) 0 (by decide +kernel) (Nat.le_of_ble_eq_true rfl) rfl (fun X F r => ?_)
  refine g_aload_n (pc := 0) F dX0_age_0 rfl ?_
  refine g_geti (pc := 1) F fl_X0_32 (by assumption) rfl dX0_age_1 ?_
  refine g_aload_n (pc := 4) F dX0_age_4 rfl ?_
  refine g_geti (pc := 5) F fl_X0_35 (by assumption) rfl dX0_age_5 ?_
  refine g_isub (pc := 8) F dX0_age_8 ?_
  refine g_iret (pc := 9) F r dX0_age_9 ?_
  exact ⟨rfl, rfl⟩

set_option maxHeartbeats 4000000 in
set_option maxRecDepth 100000 in
theorem c_X0_placeInTurn (l : Launch) (g : Gm) (M : Mem) (k : Nat) (hk : kd k = 0) : Cn l yX0_placeInTurn cX0_placeInTurn 1 (some .int) 0 0 g [.ref (ad g k)] M (fun v M2 => v = some (.int (if M k 2 + 1 < M (k + 3) 0 then M k 2 + 1 else 0)) ∧ M2 = M) := by
  refine Cn.intro (lv0 := [some (.ref (ad g k))]) 0 (by decide +kernel) (Nat.le_of_ble_eq_true rfl) rfl (fun X F r => ?_)
  obtain ⟨hk1, hk2, hk3⟩ := kd_clk hk
  refine g_aload_n (pc := 0) F dX0_placeInTurn_0 rfl ?_
  refine g_geti (pc := 1) F fl_X0_29 (by assumption) rfl dX0_placeInTurn_1 ?_
  refine g_iconst (pc := 4) (v := 1) F dX0_placeInTurn_4 (by decide) ?_
  refine g_iadd (pc := 5) F dX0_placeInTurn_5 ?_
  refine g_aload_n (pc := 6) F dX0_placeInTurn_6 rfl ?_
  refine g_getr (pc := 7) F fl_X0_22 (by assumption) rfl dX0_placeInTurn_7 ?_
  refine g_geti (pc := 10) F fl_X0_67 (by assumption) rfl dX0_placeInTurn_10 ?_
  refine g_icmp_ge (pc := 13) (tgt := 25) F dX0_placeInTurn_13 (by decide) (fun c13 => ?_) (fun c13 => ?_)
  · refine g_iconst (pc := 25) (v := 0) F dX0_placeInTurn_25 (by decide) ?_
    refine g_iret (pc := 26) F r dX0_placeInTurn_26 ?_
    refine ⟨?_, rfl⟩
    first | rw [if_neg (Int32.not_lt.mpr c13)] | rw [if_pos (Int32.not_le.mp c13)]
  · refine g_aload_n (pc := 16) F dX0_placeInTurn_16 rfl ?_
    refine g_geti (pc := 17) F fl_X0_29 (by assumption) rfl dX0_placeInTurn_17 ?_
    refine g_iconst (pc := 20) (v := 1) F dX0_placeInTurn_20 (by decide) ?_
    refine g_iadd (pc := 21) F dX0_placeInTurn_21 ?_
    refine g_goto (pc := 22) (tgt := 26) F dX0_placeInTurn_22 (by decide) ?_
    refine g_iret (pc := 26) F r dX0_placeInTurn_26 ?_
    refine ⟨?_, rfl⟩
    first | rw [if_neg (Int32.not_lt.mpr c13)] | rw [if_pos (Int32.not_le.mp c13)]

def gapF (la : Int32) (f : Nat → Int32) (p : Int32) : Int32 := if la = 2 then (if p < f 1 then f 0 else f 2) else if 0 ≤ p ∧ p < 4 then f p.toNatClampNeg else f 0
def cbegF (r : Nat → Int32) (p gp : Int32) : Nat → Int32 := fun j => if j = 2 then p else if j = 3 then gp else if j = 4 then gp else r j
theorem i_range4 {p : Int32} (h0 : 0 ≤ p) (h4 : p < 4) : ∃ q : Nat, q < 4 ∧ p = nI q := by
  have a1 := Int32.le_iff_toInt_le.mp h0
  have a2 := Int32.lt_iff_toInt_lt.mp h4
  have e0 : (0 : Int32).toInt = 0 := rfl
  have e4 : (4 : Int32).toInt = 4 := rfl
  exact vp_in_of (vp_in_iff.mpr ⟨by omega, by omega⟩) (by decide)
set_option maxHeartbeats 4000000 in
set_option maxRecDepth 100000 in
theorem c_X0_beginAt (l : Launch) (g : Gm) (M : Mem) (k : Nat) (hk : kd k = 0) (p : Int32) : Cn l yX0_beginAt cX0_beginAt 2 none 0 0 g [.ref (ad g k), .int p] M (fun v M2 => v = none ∧ M2 = updr M k (cbegF (M k) p (gapF (M k 0) (M (k + 1)) p))) := by
  refine Cn.intro (lv0 := [some (.ref (ad g k)), some (.int p)]) 0 (by decide +kernel) (Nat.le_of_ble_eq_true rfl) rfl (fun X F r => ?_)
  obtain ⟨hk1, hk2, hk3⟩ := kd_clk hk
  have hE : ∀ (gp : Int32) (M1 : Mem), gp = gapF (M k 0) (M (k + 1)) p → M1 = upd2 M k 2 p → ∀ pc : Nat, pc = 42 ∨ pc = 86 → G X g 2 M1 pc [some (.ref (ad g k)), some (.int p)] [.int gp, .ref (ad g k)] := by
    intro gp M1 hgp hM1 pc hpc
    have hF : ∀ M1 : Mem, M1 = upd2 (upd2 M k 2 p) k 3 gp → G X g 2 M1 89 [some (.ref (ad g k)), some (.int p)] [] := by
      intro M1 hM1
      refine g_aload_n (pc := 89) F dX0_beginAt_89 rfl ?_
      refine g_aload_n (pc := 90) F dX0_beginAt_90 rfl ?_
      refine g_geti (pc := 91) F fl_X0_32 (by assumption) rfl dX0_beginAt_91 ?_
      refine g_puti (pc := 94) F fl_X0_35 rfl rfl (by assumption) rfl dX0_beginAt_94 ?_
      refine g_vret (pc := 97) F r dX0_beginAt_97 ?_
      refine ⟨rfl, ?_⟩
      subst hM1
      simp only [upd2_updr, updr_upd2, updr_self, updr_updr, upd]
      refine congrArg (updr M k) (funext fun j => ?_)
      rw [← hgp]
      by_cases h2 : j = 2 <;> by_cases h3 : j = 3 <;> by_cases h4 : j = 4 <;> simp_all [cbegF, upd]
    rcases hpc with rfl | rfl
    · refine g_puti (pc := 42) F fl_X0_32 rfl rfl (by assumption) rfl dX0_beginAt_42 ?_
      refine g_goto (pc := 45) (tgt := 89) F dX0_beginAt_45 (by decide) ?_
      exact hF _ (by rw [hM1])
    · refine g_puti (pc := 86) F fl_X0_32 rfl rfl (by assumption) rfl dX0_beginAt_86 ?_
      exact hF _ (by rw [hM1])
  refine g_aload_n (pc := 0) F dX0_beginAt_0 rfl ?_
  refine g_iload_n (pc := 1) F dX0_beginAt_1 rfl ?_
  refine g_puti (pc := 2) F fl_X0_29 rfl rfl (by assumption) rfl dX0_beginAt_2 ?_
  refine g_aload_n (pc := 5) F dX0_beginAt_5 rfl ?_
  refine g_geti (pc := 6) F fl_X0_25 (by assumption) rfl dX0_beginAt_6 ?_
  refine g_iconst (pc := 9) (v := 2) F dX0_beginAt_9 (by decide) ?_
  refine g_icmp_ne (pc := 10) (tgt := 48) F dX0_beginAt_10 (by decide) (fun c10 => ?_) (fun c10 => ?_)
  · simp only [upd2_j M k p (show (0 : Nat) ≠ 2 by decide)] at c10
    refine g_aload_n (pc := 48) F dX0_beginAt_48 rfl ?_
    refine g_aload_n (pc := 49) F dX0_beginAt_49 rfl ?_
    refine g_geti (pc := 50) F fl_X0_29 (by assumption) rfl dX0_beginAt_50 ?_
    refine g_if_lt (pc := 53) (tgt := 80) F dX0_beginAt_53 (by decide) (fun c53 => ?_) (fun c53 => ?_)
    · simp only [upd2_self] at c53
      refine g_aload_n (pc := 80) F dX0_beginAt_80 rfl ?_
      refine g_getr (pc := 81) F fl_X0_9 (by assumption) rfl dX0_beginAt_81 ?_
      refine g_iconst (pc := 84) (v := 0) F dX0_beginAt_84 (by decide) ?_
      refine g_iald (pc := 85) (q := 0) F (by assumption) rfl (by decide) (by decide) dX0_beginAt_85 ?_
      refine hE _ _ ?_ rfl 86 (Or.inr rfl)
      simp only [upd2_k M 2 p (show k + 1 ≠ k by omega)]
      unfold gapF
      rw [if_neg c10]
      first | rw [if_neg (fun h => Int32.not_lt.mpr h.1 c53)] | rw [if_neg (fun h => Int32.not_le.mpr h.2 c65)] | (rw [if_pos ⟨Int32.not_lt.mp c53, Int32.not_le.mp c65⟩, hpq, nI_clamp (by omega)])
    · simp only [upd2_self] at c53
      refine g_aload_n (pc := 56) F dX0_beginAt_56 rfl ?_
      refine g_geti (pc := 57) F fl_X0_29 (by assumption) rfl dX0_beginAt_57 ?_
      refine g_aload_n (pc := 60) F dX0_beginAt_60 rfl ?_
      refine g_getr (pc := 61) F fl_X0_9 (by assumption) rfl dX0_beginAt_61 ?_
      refine g_alen (pc := 64) F (by assumption) rfl (v := 4) (by decide) dX0_beginAt_64 ?_
      refine g_icmp_ge (pc := 65) (tgt := 80) F dX0_beginAt_65 (by decide) (fun c65 => ?_) (fun c65 => ?_)
      · simp only [upd2_self] at c65
        refine g_aload_n (pc := 80) F dX0_beginAt_80 rfl ?_
        refine g_getr (pc := 81) F fl_X0_9 (by assumption) rfl dX0_beginAt_81 ?_
        refine g_iconst (pc := 84) (v := 0) F dX0_beginAt_84 (by decide) ?_
        refine g_iald (pc := 85) (q := 0) F (by assumption) rfl (by decide) (by decide) dX0_beginAt_85 ?_
        refine hE _ _ ?_ rfl 86 (Or.inr rfl)
        simp only [upd2_k M 2 p (show k + 1 ≠ k by omega)]
        unfold gapF
        rw [if_neg c10]
        first | rw [if_neg (fun h => Int32.not_lt.mpr h.1 c53)] | rw [if_neg (fun h => Int32.not_le.mpr h.2 c65)] | (rw [if_pos ⟨Int32.not_lt.mp c53, Int32.not_le.mp c65⟩, hpq, nI_clamp (by omega)])
      · simp only [upd2_self] at c65
        obtain ⟨q, hq, hpq⟩ := i_range4 (Int32.not_lt.mp c53) (Int32.not_le.mp c65)
        refine g_aload_n (pc := 68) F dX0_beginAt_68 rfl ?_
        refine g_getr (pc := 69) F fl_X0_9 (by assumption) rfl dX0_beginAt_69 ?_
        refine g_aload_n (pc := 72) F dX0_beginAt_72 rfl ?_
        refine g_geti (pc := 73) F fl_X0_29 (by assumption) rfl dX0_beginAt_73 ?_
        refine g_iald (pc := 76) (q := q) F (by assumption) rfl (by rw [upd2_self]; exact hpq) hq dX0_beginAt_76 ?_
        refine g_goto (pc := 77) (tgt := 86) F dX0_beginAt_77 (by decide) ?_
        refine hE _ _ ?_ rfl 86 (Or.inr rfl)
        simp only [upd2_k M 2 p (show k + 1 ≠ k by omega)]
        unfold gapF
        rw [if_neg c10]
        first | rw [if_neg (fun h => Int32.not_lt.mpr h.1 c53)] | rw [if_neg (fun h => Int32.not_le.mpr h.2 c65)] | (rw [if_pos ⟨Int32.not_lt.mp c53, Int32.not_le.mp c65⟩, hpq, nI_clamp (by omega)])
  · simp only [upd2_j M k p (show (0 : Nat) ≠ 2 by decide)] at c10
    refine g_aload_n (pc := 13) F dX0_beginAt_13 rfl ?_
    refine g_aload_n (pc := 14) F dX0_beginAt_14 rfl ?_
    refine g_geti (pc := 15) F fl_X0_29 (by assumption) rfl dX0_beginAt_15 ?_
    refine g_aload_n (pc := 18) F dX0_beginAt_18 rfl ?_
    refine g_getr (pc := 19) F fl_X0_9 (by assumption) rfl dX0_beginAt_19 ?_
    refine g_iconst (pc := 22) (v := 1) F dX0_beginAt_22 (by decide) ?_
    refine g_iald (pc := 23) (q := 1) F (by assumption) rfl (by decide) (by decide) dX0_beginAt_23 ?_
    refine g_icmp_ge (pc := 24) (tgt := 36) F dX0_beginAt_24 (by decide) (fun c24 => ?_) (fun c24 => ?_)
    · refine g_aload_n (pc := 36) F dX0_beginAt_36 rfl ?_
      refine g_getr (pc := 37) F fl_X0_9 (by assumption) rfl dX0_beginAt_37 ?_
      refine g_iconst (pc := 40) (v := 2) F dX0_beginAt_40 (by decide) ?_
      refine g_iald (pc := 41) (q := 2) F (by assumption) rfl (by decide) (by decide) dX0_beginAt_41 ?_
      refine hE _ _ ?_ rfl 42 (Or.inl rfl)
      simp only [upd2_self, upd2_j M k p (show (0 : Nat) ≠ 2 by decide), upd2_k M 2 p (show k + 1 ≠ k by omega)] at *
      unfold gapF
      rw [if_pos c10]
      first | rw [if_neg (Int32.not_lt.mpr c24)] | rw [if_pos (Int32.not_le.mp c24)]
    · refine g_aload_n (pc := 27) F dX0_beginAt_27 rfl ?_
      refine g_getr (pc := 28) F fl_X0_9 (by assumption) rfl dX0_beginAt_28 ?_
      refine g_iconst (pc := 31) (v := 0) F dX0_beginAt_31 (by decide) ?_
      refine g_iald (pc := 32) (q := 0) F (by assumption) rfl (by decide) (by decide) dX0_beginAt_32 ?_
      refine g_goto (pc := 33) (tgt := 42) F dX0_beginAt_33 (by decide) ?_
      refine hE _ _ ?_ rfl 42 (Or.inl rfl)
      simp only [upd2_self, upd2_j M k p (show (0 : Nat) ≠ 2 by decide), upd2_k M 2 p (show k + 1 ≠ k by omega)] at *
      unfold gapF
      rw [if_pos c10]
      first | rw [if_neg (Int32.not_lt.mpr c24)] | rw [if_pos (Int32.not_le.mp c24)]

def tickM (M : Mem) (k : Nat) : Mem := if M k 4 - 1 ≤ 0 then updr (updr M k (upd (M k) 4 (M k 4 - 1))) (k + 2) (radd (M (k + 2)) (M k 3) 1) else updr M k (upd (M k) 4 (M k 4 - 1))
set_option maxHeartbeats 4000000 in
set_option maxRecDepth 100000 in
theorem c_X0_passTick (l : Launch) (g : Gm) (M : Mem) (k : Nat) (hk : kd k = 0) : Cn l yX0_passTick cX0_passTick 1 (some .boolean) 1 22 g [.ref (ad g k)] M (fun v M2 => v = some (.int (b2i (M k 4 - 1 ≤ 0))) ∧ M2 = tickM M k) := by
  refine Cn.intro (lv0 := [some (.ref (ad g k))]) 0 (by decide +kernel) (Nat.le_of_ble_eq_true rfl) rfl (fun X F r => ?_)
  obtain ⟨hk1, hk2, hk3⟩ := kd_clk hk
  refine g_aload_n (pc := 0) F dX0_passTick_0 rfl ?_
  refine g_dup (pc := 1) F dX0_passTick_1 rfl ?_
  refine g_geti (pc := 2) F fl_X0_35 (by assumption) rfl dX0_passTick_2 ?_
  refine g_iconst (pc := 5) (v := 1) F dX0_passTick_5 (by decide) ?_
  refine g_isub (pc := 6) F dX0_passTick_6 ?_
  refine g_puti (pc := 7) F fl_X0_35 rfl rfl (by assumption) rfl dX0_passTick_7 ?_
  refine g_aload_n (pc := 10) F dX0_passTick_10 rfl ?_
  refine g_geti (pc := 11) F fl_X0_35 (by assumption) rfl dX0_passTick_11 ?_
  refine g_if_le (pc := 14) (tgt := 19) F dX0_passTick_14 (by decide) (fun c14 => ?_) (fun c14 => ?_)
  · rw [upd2_self] at c14
    refine g_aload_n (pc := 19) F dX0_passTick_19 rfl ?_
    refine g_getr (pc := 20) F fl_X0_18 (by assumption) rfl dX0_passTick_20 ?_
    refine g_aload_n (pc := 23) F dX0_passTick_23 rfl ?_
    refine g_geti (pc := 24) F fl_X0_32 (by assumption) rfl dX0_passTick_24 ?_
    refine g_iconst (pc := 27) (v := 1) F dX0_passTick_27 (by decide) ?_
    refine g_callV (pc := 28) (rf2 := 0) (rl2 := 0) F cs_X0_53 (by assumption) rfl (by decide) (by rfl) (by rfl) (Nat.le_of_ble_eq_true (by rfl)) (by decide) dX0_passTick_28 (c_X1_add _ g _ (k + 2) hk2 _ _) (fun v M2 hz => ?_)
    obtain ⟨rfl, rfl⟩ := hz
    refine g_iconst (pc := 31) (v := 1) F dX0_passTick_31 (by decide) ?_
    refine g_zret (pc := 32) F (by decide) r dX0_passTick_32 ?_
    unfold tickM b2i
    rw [if_pos c14, if_pos c14, upd2_updr, updr_ne _ _ (show k + 2 ≠ k by omega), updr_self]
    exact ⟨rfl, rfl⟩
  · rw [upd2_self] at c14
    refine g_iconst (pc := 17) (v := 0) F dX0_passTick_17 (by decide) ?_
    refine g_zret (pc := 18) F (by decide) r dX0_passTick_18 ?_
    unfold tickM b2i
    rw [if_neg c14, if_neg c14, upd2_updr]
    exact ⟨rfl, rfl⟩

/-- what a clock tells -/
def tellV (M : Mem) (k q : Nat) : Int32 := match q with
  | 0 => M k 0
  | 1 => M (k + 1) 0
  | 2 => M (k + 1) 1
  | 3 => M (k + 1) 2
  | 4 => M (k + 1) 3
  | 5 => M k 3
  | 6 => M k 3 - M k 4
  | 7 => M k 4
  | 8 => M (k + 2) 0
  | 9 => M (k + 2) 1
  | 10 => if M (k + 2) 0 = 0 then -1000004 else M (k + 2) 4
  | 11 => M k 5
  | 12 => M k 6
  | _ => M k 7
set_option maxHeartbeats 4000000 in
set_option maxRecDepth 100000 in
theorem c_X0_tell (l : Launch) (g : Gm) (M : Mem) (k : Nat) (hk : kd k = 0) (q : Nat) (hq : q < 14) : Cn l yX0_tell cX0_tell 2 (some .int) 1 20 g [.ref (ad g k), .int (nI q)] M (fun v M2 => v = some (.int (tellV M k q)) ∧ M2 = M) := by
  refine Cn.intro (lv0 := [some (.ref (ad g k)), some (.int (nI q))]) 0 (by decide +kernel) (Nat.le_of_ble_eq_true rfl) rfl (fun X F r => ?_)
  obtain ⟨hk1, hk2, hk3⟩ := kd_clk hk
  match q, hq with
  | 0, _ =>
      refine g_iload_n (pc := 0) F dX0_tell_0 rfl ?_
      refine g_iconst (pc := 1) (v := 1) F dX0_tell_1 (by decide) ?_
      refine g_icmp_lt (pc := 2) (tgt := 19) F dX0_tell_2 (by decide) (fun c2 => ?_) (fun c2 => ?_)
      · refine g_iload_n (pc := 19) F dX0_tell_19 rfl ?_
        refine g_tableIn (pc := 20) (tgt := 88) F dX0_tell_20 (by decide) (by decide) (by rfl) (by decide) ?_
        refine g_aload_n (pc := 88) F dX0_tell_88 rfl ?_
        refine g_geti (pc := 89) F fl_X0_25 (by assumption) rfl dX0_tell_89 ?_
        refine g_iret (pc := 92) F r dX0_tell_92 ?_
        exact ⟨rfl, rfl⟩
      · exact absurd (by decide) c2
  | 1, _ =>
      refine g_iload_n (pc := 0) F dX0_tell_0 rfl ?_
      refine g_iconst (pc := 1) (v := 1) F dX0_tell_1 (by decide) ?_
      refine g_icmp_lt (pc := 2) (tgt := 19) F dX0_tell_2 (by decide) (fun c2 => ?_) (fun c2 => ?_)
      · exact absurd c2 (by decide)
      · refine g_iload_n (pc := 5) F dX0_tell_5 rfl ?_
        refine g_iconst (pc := 6) (v := 4) F dX0_tell_6 (by decide) ?_
        refine g_icmp_gt (pc := 7) (tgt := 19) F dX0_tell_7 (by decide) (fun c7 => ?_) (fun c7 => ?_)
        · exact absurd c7 (by decide)
        · refine g_aload_n (pc := 10) F dX0_tell_10 rfl ?_
          refine g_getr (pc := 11) F fl_X0_9 (by assumption) rfl dX0_tell_11 ?_
          refine g_iload_n (pc := 14) F dX0_tell_14 rfl ?_
          refine g_iconst (pc := 15) (v := 1) F dX0_tell_15 (by decide) ?_
          refine g_isub (pc := 16) F dX0_tell_16 ?_
          refine g_iald (pc := 17) (q := 0) F (by assumption) rfl (by decide) (by decide) dX0_tell_17 ?_
          refine g_iret (pc := 18) F r dX0_tell_18 ?_
          exact ⟨rfl, rfl⟩
  | 2, _ =>
      refine g_iload_n (pc := 0) F dX0_tell_0 rfl ?_
      refine g_iconst (pc := 1) (v := 1) F dX0_tell_1 (by decide) ?_
      refine g_icmp_lt (pc := 2) (tgt := 19) F dX0_tell_2 (by decide) (fun c2 => ?_) (fun c2 => ?_)
      · exact absurd c2 (by decide)
      · refine g_iload_n (pc := 5) F dX0_tell_5 rfl ?_
        refine g_iconst (pc := 6) (v := 4) F dX0_tell_6 (by decide) ?_
        refine g_icmp_gt (pc := 7) (tgt := 19) F dX0_tell_7 (by decide) (fun c7 => ?_) (fun c7 => ?_)
        · exact absurd c7 (by decide)
        · refine g_aload_n (pc := 10) F dX0_tell_10 rfl ?_
          refine g_getr (pc := 11) F fl_X0_9 (by assumption) rfl dX0_tell_11 ?_
          refine g_iload_n (pc := 14) F dX0_tell_14 rfl ?_
          refine g_iconst (pc := 15) (v := 1) F dX0_tell_15 (by decide) ?_
          refine g_isub (pc := 16) F dX0_tell_16 ?_
          refine g_iald (pc := 17) (q := 1) F (by assumption) rfl (by decide) (by decide) dX0_tell_17 ?_
          refine g_iret (pc := 18) F r dX0_tell_18 ?_
          exact ⟨rfl, rfl⟩
  | 3, _ =>
      refine g_iload_n (pc := 0) F dX0_tell_0 rfl ?_
      refine g_iconst (pc := 1) (v := 1) F dX0_tell_1 (by decide) ?_
      refine g_icmp_lt (pc := 2) (tgt := 19) F dX0_tell_2 (by decide) (fun c2 => ?_) (fun c2 => ?_)
      · exact absurd c2 (by decide)
      · refine g_iload_n (pc := 5) F dX0_tell_5 rfl ?_
        refine g_iconst (pc := 6) (v := 4) F dX0_tell_6 (by decide) ?_
        refine g_icmp_gt (pc := 7) (tgt := 19) F dX0_tell_7 (by decide) (fun c7 => ?_) (fun c7 => ?_)
        · exact absurd c7 (by decide)
        · refine g_aload_n (pc := 10) F dX0_tell_10 rfl ?_
          refine g_getr (pc := 11) F fl_X0_9 (by assumption) rfl dX0_tell_11 ?_
          refine g_iload_n (pc := 14) F dX0_tell_14 rfl ?_
          refine g_iconst (pc := 15) (v := 1) F dX0_tell_15 (by decide) ?_
          refine g_isub (pc := 16) F dX0_tell_16 ?_
          refine g_iald (pc := 17) (q := 2) F (by assumption) rfl (by decide) (by decide) dX0_tell_17 ?_
          refine g_iret (pc := 18) F r dX0_tell_18 ?_
          exact ⟨rfl, rfl⟩
  | 4, _ =>
      refine g_iload_n (pc := 0) F dX0_tell_0 rfl ?_
      refine g_iconst (pc := 1) (v := 1) F dX0_tell_1 (by decide) ?_
      refine g_icmp_lt (pc := 2) (tgt := 19) F dX0_tell_2 (by decide) (fun c2 => ?_) (fun c2 => ?_)
      · exact absurd c2 (by decide)
      · refine g_iload_n (pc := 5) F dX0_tell_5 rfl ?_
        refine g_iconst (pc := 6) (v := 4) F dX0_tell_6 (by decide) ?_
        refine g_icmp_gt (pc := 7) (tgt := 19) F dX0_tell_7 (by decide) (fun c7 => ?_) (fun c7 => ?_)
        · exact absurd c7 (by decide)
        · refine g_aload_n (pc := 10) F dX0_tell_10 rfl ?_
          refine g_getr (pc := 11) F fl_X0_9 (by assumption) rfl dX0_tell_11 ?_
          refine g_iload_n (pc := 14) F dX0_tell_14 rfl ?_
          refine g_iconst (pc := 15) (v := 1) F dX0_tell_15 (by decide) ?_
          refine g_isub (pc := 16) F dX0_tell_16 ?_
          refine g_iald (pc := 17) (q := 3) F (by assumption) rfl (by decide) (by decide) dX0_tell_17 ?_
          refine g_iret (pc := 18) F r dX0_tell_18 ?_
          exact ⟨rfl, rfl⟩
  | 5, _ =>
      refine g_iload_n (pc := 0) F dX0_tell_0 rfl ?_
      refine g_iconst (pc := 1) (v := 1) F dX0_tell_1 (by decide) ?_
      refine g_icmp_lt (pc := 2) (tgt := 19) F dX0_tell_2 (by decide) (fun c2 => ?_) (fun c2 => ?_)
      · exact absurd c2 (by decide)
      · refine g_iload_n (pc := 5) F dX0_tell_5 rfl ?_
        refine g_iconst (pc := 6) (v := 4) F dX0_tell_6 (by decide) ?_
        refine g_icmp_gt (pc := 7) (tgt := 19) F dX0_tell_7 (by decide) (fun c7 => ?_) (fun c7 => ?_)
        · refine g_iload_n (pc := 19) F dX0_tell_19 rfl ?_
          refine g_tableIn (pc := 20) (tgt := 93) F dX0_tell_20 (by decide) (by decide) (by rfl) (by decide) ?_
          refine g_aload_n (pc := 93) F dX0_tell_93 rfl ?_
          refine g_geti (pc := 94) F fl_X0_32 (by assumption) rfl dX0_tell_94 ?_
          refine g_iret (pc := 97) F r dX0_tell_97 ?_
          exact ⟨rfl, rfl⟩
        · exact absurd (by decide) c7
  | 6, _ =>
      refine g_iload_n (pc := 0) F dX0_tell_0 rfl ?_
      refine g_iconst (pc := 1) (v := 1) F dX0_tell_1 (by decide) ?_
      refine g_icmp_lt (pc := 2) (tgt := 19) F dX0_tell_2 (by decide) (fun c2 => ?_) (fun c2 => ?_)
      · exact absurd c2 (by decide)
      · refine g_iload_n (pc := 5) F dX0_tell_5 rfl ?_
        refine g_iconst (pc := 6) (v := 4) F dX0_tell_6 (by decide) ?_
        refine g_icmp_gt (pc := 7) (tgt := 19) F dX0_tell_7 (by decide) (fun c7 => ?_) (fun c7 => ?_)
        · refine g_iload_n (pc := 19) F dX0_tell_19 rfl ?_
          refine g_tableIn (pc := 20) (tgt := 98) F dX0_tell_20 (by decide) (by decide) (by rfl) (by decide) ?_
          refine g_aload_n (pc := 98) F dX0_tell_98 rfl ?_
          refine g_callV (pc := 99) (rf2 := 0) (rl2 := 0) F cs_X0_70 (by assumption) rfl (by decide) (by rfl) (by rfl) (Nat.le_of_ble_eq_true (by rfl)) (by decide) dX0_tell_99 (c_X0_age _ g _ k hk) (fun v M2 hz => ?_)
          obtain ⟨rfl, h2⟩ := hz
          rw [h2]
          refine g_iret (pc := 102) F r dX0_tell_102 ?_
          exact ⟨rfl, rfl⟩
        · exact absurd (by decide) c7
  | 7, _ =>
      refine g_iload_n (pc := 0) F dX0_tell_0 rfl ?_
      refine g_iconst (pc := 1) (v := 1) F dX0_tell_1 (by decide) ?_
      refine g_icmp_lt (pc := 2) (tgt := 19) F dX0_tell_2 (by decide) (fun c2 => ?_) (fun c2 => ?_)
      · exact absurd c2 (by decide)
      · refine g_iload_n (pc := 5) F dX0_tell_5 rfl ?_
        refine g_iconst (pc := 6) (v := 4) F dX0_tell_6 (by decide) ?_
        refine g_icmp_gt (pc := 7) (tgt := 19) F dX0_tell_7 (by decide) (fun c7 => ?_) (fun c7 => ?_)
        · refine g_iload_n (pc := 19) F dX0_tell_19 rfl ?_
          refine g_tableIn (pc := 20) (tgt := 103) F dX0_tell_20 (by decide) (by decide) (by rfl) (by decide) ?_
          refine g_aload_n (pc := 103) F dX0_tell_103 rfl ?_
          refine g_geti (pc := 104) F fl_X0_35 (by assumption) rfl dX0_tell_104 ?_
          refine g_iret (pc := 107) F r dX0_tell_107 ?_
          exact ⟨rfl, rfl⟩
        · exact absurd (by decide) c7
  | 8, _ =>
      refine g_iload_n (pc := 0) F dX0_tell_0 rfl ?_
      refine g_iconst (pc := 1) (v := 1) F dX0_tell_1 (by decide) ?_
      refine g_icmp_lt (pc := 2) (tgt := 19) F dX0_tell_2 (by decide) (fun c2 => ?_) (fun c2 => ?_)
      · exact absurd c2 (by decide)
      · refine g_iload_n (pc := 5) F dX0_tell_5 rfl ?_
        refine g_iconst (pc := 6) (v := 4) F dX0_tell_6 (by decide) ?_
        refine g_icmp_gt (pc := 7) (tgt := 19) F dX0_tell_7 (by decide) (fun c7 => ?_) (fun c7 => ?_)
        · refine g_iload_n (pc := 19) F dX0_tell_19 rfl ?_
          refine g_tableIn (pc := 20) (tgt := 108) F dX0_tell_20 (by decide) (by decide) (by rfl) (by decide) ?_
          refine g_aload_n (pc := 108) F dX0_tell_108 rfl ?_
          refine g_getr (pc := 109) F fl_X0_18 (by assumption) rfl dX0_tell_109 ?_
          refine g_geti (pc := 112) F fl_X0_67 (by assumption) rfl dX0_tell_112 ?_
          refine g_iret (pc := 115) F r dX0_tell_115 ?_
          exact ⟨rfl, rfl⟩
        · exact absurd (by decide) c7
  | 9, _ =>
      refine g_iload_n (pc := 0) F dX0_tell_0 rfl ?_
      refine g_iconst (pc := 1) (v := 1) F dX0_tell_1 (by decide) ?_
      refine g_icmp_lt (pc := 2) (tgt := 19) F dX0_tell_2 (by decide) (fun c2 => ?_) (fun c2 => ?_)
      · exact absurd c2 (by decide)
      · refine g_iload_n (pc := 5) F dX0_tell_5 rfl ?_
        refine g_iconst (pc := 6) (v := 4) F dX0_tell_6 (by decide) ?_
        refine g_icmp_gt (pc := 7) (tgt := 19) F dX0_tell_7 (by decide) (fun c7 => ?_) (fun c7 => ?_)
        · refine g_iload_n (pc := 19) F dX0_tell_19 rfl ?_
          refine g_tableIn (pc := 20) (tgt := 116) F dX0_tell_20 (by decide) (by decide) (by rfl) (by decide) ?_
          refine g_aload_n (pc := 116) F dX0_tell_116 rfl ?_
          refine g_getr (pc := 117) F fl_X0_18 (by assumption) rfl dX0_tell_117 ?_
          refine g_geti (pc := 120) F fl_X0_74 (by assumption) rfl dX0_tell_120 ?_
          refine g_iret (pc := 123) F r dX0_tell_123 ?_
          exact ⟨rfl, rfl⟩
        · exact absurd (by decide) c7
  | 10, _ =>
      refine g_iload_n (pc := 0) F dX0_tell_0 rfl ?_
      refine g_iconst (pc := 1) (v := 1) F dX0_tell_1 (by decide) ?_
      refine g_icmp_lt (pc := 2) (tgt := 19) F dX0_tell_2 (by decide) (fun c2 => ?_) (fun c2 => ?_)
      · exact absurd c2 (by decide)
      · refine g_iload_n (pc := 5) F dX0_tell_5 rfl ?_
        refine g_iconst (pc := 6) (v := 4) F dX0_tell_6 (by decide) ?_
        refine g_icmp_gt (pc := 7) (tgt := 19) F dX0_tell_7 (by decide) (fun c7 => ?_) (fun c7 => ?_)
        · refine g_iload_n (pc := 19) F dX0_tell_19 rfl ?_
          refine g_tableIn (pc := 20) (tgt := 124) F dX0_tell_20 (by decide) (by decide) (by rfl) (by decide) ?_
          refine g_aload_n (pc := 124) F dX0_tell_124 rfl ?_
          refine g_getr (pc := 125) F fl_X0_18 (by assumption) rfl dX0_tell_125 ?_
          refine g_geti (pc := 128) F fl_X0_67 (by assumption) rfl dX0_tell_128 ?_
          refine g_if_ne (pc := 131) (tgt := 139) F dX0_tell_131 (by decide) (fun c131 => ?_) (fun c131 => ?_)
          · refine g_aload_n (pc := 139) F dX0_tell_139 rfl ?_
            refine g_getr (pc := 140) F fl_X0_18 (by assumption) rfl dX0_tell_140 ?_
            refine g_geti (pc := 143) F fl_X0_78 (by assumption) rfl dX0_tell_143 ?_
            refine g_iret (pc := 146) F r dX0_tell_146 ?_
            refine ⟨?_, rfl⟩
            show some (Value.int _) = some (Value.int (if M (k + 2) 0 = 0 then -1000004 else M (k + 2) 4))
            first | rw [if_neg c131] | rw [if_pos c131]
          · refine g_ldc (pc := 134) F wk_X0_77 dX0_tell_134 ?_
            refine g_goto (pc := 136) (tgt := 146) F dX0_tell_136 (by decide) ?_
            refine g_iret (pc := 146) F r dX0_tell_146 ?_
            refine ⟨?_, rfl⟩
            show some (Value.int _) = some (Value.int (if M (k + 2) 0 = 0 then -1000004 else M (k + 2) 4))
            first | rw [if_neg c131] | rw [if_pos c131]
        · exact absurd (by decide) c7
  | 11, _ =>
      refine g_iload_n (pc := 0) F dX0_tell_0 rfl ?_
      refine g_iconst (pc := 1) (v := 1) F dX0_tell_1 (by decide) ?_
      refine g_icmp_lt (pc := 2) (tgt := 19) F dX0_tell_2 (by decide) (fun c2 => ?_) (fun c2 => ?_)
      · exact absurd c2 (by decide)
      · refine g_iload_n (pc := 5) F dX0_tell_5 rfl ?_
        refine g_iconst (pc := 6) (v := 4) F dX0_tell_6 (by decide) ?_
        refine g_icmp_gt (pc := 7) (tgt := 19) F dX0_tell_7 (by decide) (fun c7 => ?_) (fun c7 => ?_)
        · refine g_iload_n (pc := 19) F dX0_tell_19 rfl ?_
          refine g_tableIn (pc := 20) (tgt := 147) F dX0_tell_20 (by decide) (by decide) (by rfl) (by decide) ?_
          refine g_aload_n (pc := 147) F dX0_tell_147 rfl ?_
          refine g_geti (pc := 148) F fl_X0_38 (by assumption) rfl dX0_tell_148 ?_
          refine g_iret (pc := 151) F r dX0_tell_151 ?_
          exact ⟨rfl, rfl⟩
        · exact absurd (by decide) c7
  | 12, _ =>
      refine g_iload_n (pc := 0) F dX0_tell_0 rfl ?_
      refine g_iconst (pc := 1) (v := 1) F dX0_tell_1 (by decide) ?_
      refine g_icmp_lt (pc := 2) (tgt := 19) F dX0_tell_2 (by decide) (fun c2 => ?_) (fun c2 => ?_)
      · exact absurd c2 (by decide)
      · refine g_iload_n (pc := 5) F dX0_tell_5 rfl ?_
        refine g_iconst (pc := 6) (v := 4) F dX0_tell_6 (by decide) ?_
        refine g_icmp_gt (pc := 7) (tgt := 19) F dX0_tell_7 (by decide) (fun c7 => ?_) (fun c7 => ?_)
        · refine g_iload_n (pc := 19) F dX0_tell_19 rfl ?_
          refine g_tableIn (pc := 20) (tgt := 152) F dX0_tell_20 (by decide) (by decide) (by rfl) (by decide) ?_
          refine g_aload_n (pc := 152) F dX0_tell_152 rfl ?_
          refine g_geti (pc := 153) F fl_X0_41 (by assumption) rfl dX0_tell_153 ?_
          refine g_iret (pc := 156) F r dX0_tell_156 ?_
          exact ⟨rfl, rfl⟩
        · exact absurd (by decide) c7
  | 13, _ =>
      refine g_iload_n (pc := 0) F dX0_tell_0 rfl ?_
      refine g_iconst (pc := 1) (v := 1) F dX0_tell_1 (by decide) ?_
      refine g_icmp_lt (pc := 2) (tgt := 19) F dX0_tell_2 (by decide) (fun c2 => ?_) (fun c2 => ?_)
      · exact absurd c2 (by decide)
      · refine g_iload_n (pc := 5) F dX0_tell_5 rfl ?_
        refine g_iconst (pc := 6) (v := 4) F dX0_tell_6 (by decide) ?_
        refine g_icmp_gt (pc := 7) (tgt := 19) F dX0_tell_7 (by decide) (fun c7 => ?_) (fun c7 => ?_)
        · refine g_iload_n (pc := 19) F dX0_tell_19 rfl ?_
          refine g_tableOut (pc := 20) (tgt := 157) F dX0_tell_20 (by decide) (by decide) ?_
          refine g_aload_n (pc := 157) F dX0_tell_157 rfl ?_
          refine g_geti (pc := 158) F fl_X0_44 (by assumption) rfl dX0_tell_158 ?_
          refine g_iret (pc := 161) F r dX0_tell_161 ?_
          exact ⟨rfl, rfl⟩
        · exact absurd (by decide) c7
end
section
/-! WHAT A STATE IS: a hall as the check has it, 110 numbers: counts, tick, x, clocks by fifteen from 4 on, groups by four from 94 on. -/
theorem nI_mul (a b : Nat) : nI a * nI b = nI (a * b) := (Int32.ofNat_mul a b).symm
theorem nI_sub {a b : Nat} (h : b ≤ a) : nI a - nI b = nI (a - b) := by
  have h1 : nI a = nI (a - b) + nI b := by rw [nI_add, Nat.sub_add_cancel h]
  rw [Int32.sub_eq_iff_eq_add]
  exact h1
theorem upd_self (f : Nat → Int32) (k : Nat) (x : Int32) : upd f k x k = x := by simp [upd]
theorem upd_ne (f : Nat → Int32) {k j : Nat} (x : Int32) (h : j ≠ k) : upd f k x j = f j := by simp [upd, h]
theorem upd_get (f : Nat → Int32) (k j : Nat) (x : Int32) : upd f k x j = if j = k then x else f j := rfl
abbrev SV : Type := Nat → Int32
/-- a clock's fifteen: 0 law, 1..4 a, b, c, d, 5 place, 6 gap, 7 age, 8 told, 9 sum, 10 squares, 11 longest, 12 passengers, 13 waited, 14 wound -/
def cw (S : SV) (i : Nat) : Nat → Int32 := fun j => S (4 + 15 * i + j)
def gw (S : SV) (i : Nat) : Nat → Int32 := fun j => S (94 + 4 * i + j)
def setC (S : SV) (i : Nat) (w : Nat → Int32) : SV := fun k => if 4 + 15 * i ≤ k ∧ k < 19 + 15 * i then w (k - (4 + 15 * i)) else S k
def setGr (S : SV) (i : Nat) (w : Nat → Int32) : SV := fun k => if 94 + 4 * i ≤ k ∧ k < 98 + 4 * i then w (k - (94 + 4 * i)) else S k
def cn (S : SV) : Nat := (S 0).toNatClampNeg
def gn (S : SV) : Nat := (S 1).toNatClampNeg
theorem cw_setC (S : SV) (i : Nat) (w : Nat → Int32) {j : Nat} (hj : j < 15) : cw (setC S i w) i j = w j := by
  unfold cw setC
  rw [if_pos (by omega)]
  congr 1
  omega
theorem cw_setC_ne (S : SV) {i i' : Nat} (w : Nat → Int32) {j : Nat} (hj : j < 15) (h : i' ≠ i) : cw (setC S i w) i' j = cw S i' j := by
  unfold cw setC
  rw [if_neg (by omega)]
theorem gw_setC (S : SV) {i : Nat} (w : Nat → Int32) (hi : i < 6) (k j : Nat) : gw (setC S i w) k j = gw S k j := by
  unfold gw setC
  rw [if_neg (by omega)]
theorem setC_lo (S : SV) (i : Nat) (w : Nat → Int32) {k : Nat} (hk : k < 4) : setC S i w k = S k := by
  unfold setC
  rw [if_neg (by omega)]
theorem cw_upd_lo (S : SV) (i : Nat) {k : Nat} (v : Int32) (hk : k < 4) : cw (upd S k v) i = cw S i := by
  funext j
  unfold cw
  rw [upd_ne _ _ (by omega)]
theorem gw_upd_lo (S : SV) (i : Nat) {k : Nat} (v : Int32) (hk : k < 4) : gw (upd S k v) i = gw S i := by
  funext j
  unfold gw
  rw [upd_ne _ _ (by omega)]
theorem gw_setGr (S : SV) (i : Nat) (w : Nat → Int32) {j : Nat} (hj : j < 4) : gw (setGr S i w) i j = w j := by
  unfold gw setGr
  rw [if_pos (by omega)]
  congr 1
  omega
theorem gw_setGr_ne (S : SV) {i i' : Nat} (w : Nat → Int32) {j : Nat} (hj : j < 4) (h : i' ≠ i) : gw (setGr S i w) i' j = gw S i' j := by
  unfold gw setGr
  rw [if_neg (by omega)]
theorem cw_setGr (S : SV) (i : Nat) (w : Nat → Int32) {k : Nat} (hk : k < 6) {j : Nat} (hj : j < 15) : cw (setGr S i w) k j = cw S k j := by
  unfold cw setGr
  rw [if_neg (by omega)]
theorem setGr_lo (S : SV) (i : Nat) (w : Nat → Int32) {k : Nat} (hk : k < 4) : setGr S i w k = S k := by
  unfold setGr
  rw [if_neg (by omega)]
/-! a clock's gaps -/
def places (w : Nat → Int32) : Int32 := if w 0 = 2 then w 2 + 1 else (if 0 < w 1 then 1 else 0) + (if 0 < w 2 then 1 else 0) + (if 0 < w 3 then 1 else 0) + (if 0 < w 4 then 1 else 0)
def gapAt (w : Nat → Int32) (p : Int32) : Int32 := if w 0 = 2 then (if p < w 2 then w 1 else w 3) else w (1 + p.toNatClampNeg)
def xnext (x : Int32) : Int32 := jrem (x * 421 + 1663) 10000
def bx (w : Nat → Int32) (x : Int32) : Int32 := if w 0 = 1 then xnext x else x
def bplace (w : Nat → Int32) (x next : Int32) : Int32 := if w 0 = 1 then jrem (xnext x) (places w) else jrem next (places w)
def bw (w : Nat → Int32) (x next : Int32) : Nat → Int32 := upd (upd (upd w 5 (bplace w x next)) 6 (gapAt w (bplace w x next))) 7 0
/-- clock i begins its next gap -/
def beg (S : SV) (i : Nat) (next : Int32) : SV := upd (setC S i (bw (cw S i) (S 3) next)) 3 (bx (cw S i) (S 3))
/-- clock w has told its gap -/
def tw (w : Nat → Int32) : Nat → Int32 := upd (upd (upd (upd w 8 (w 8 + 1)) 9 (w 9 + w 6)) 10 (w 10 + w 6 * w 6)) 11 (if w 6 < w 11 then w 11 else w 6)
def ow (w : Nat → Int32) : Nat → Int32 := upd w 7 (w 7 + 1)
/-- does clock i tell a gap with the tick that ends now -/
abbrev tC (S : SV) (i : Nat) : Prop := cw S i 6 - (cw S i 7 + 1) = 0
def sC (S : SV) (i : Nat) : SV := if tC S i then beg (setC S i (tw (ow (cw S i)))) i (cw S i 5 + 1) else setC S i (ow (cw S i))
def eC (S : SV) : Nat → SV × Int32
  | 0 => (S, 0)
  | i + 1 => (sC (eC S i).1 i, if tC (eC S i).1 i then (eC S i).2 ||| (1 <<< (nI i &&& 31)) else (eC S i).2)
def eG (S : SV) (z : Int32) : Nat → SV
  | 0 => S
  | i + 1 => setGr (eG S z i) i (gtick (gw (eG S z i) i) z)
/-- a tick ends -/
def ends (S : SV) : SV := upd (eG (eC S (cn S)).1 (eC S (cn S)).2 (gn S)) 2 (S 2 + 1)
/-- the clocks that tell a gap with it, as a set -/
def endsZ (S : SV) : Int32 := (eC S (cn S)).2
/-! what holds of every state -/
def NP (la b c d : Nat) : Nat := if la = 2 then b + 1 else 1 + (if 0 < b then 1 else 0) + (if 0 < c then 1 else 0) + (if 0 < d then 1 else 0)
/-- a law and its numbers -/
def LI (w : Nat → Int32) (la a b c d : Nat) : Prop := w 0 = nI la ∧ w 1 = nI a ∧ w 2 = nI b ∧ w 3 = nI c ∧ w 4 = nI d ∧ la ≤ 2 ∧ 1 ≤ a ∧ a ≤ 50 ∧ b ≤ 50 ∧ c ≤ 50 ∧ d ≤ 50 ∧ (la = 2 → 1 ≤ b ∧ 1 ≤ c ∧ d = 0) ∧ (la ≠ 2 → (b = 0 → c = 0) ∧ (c = 0 → d = 0))
/-- a clock at the tick t -/
def CI (w : Nat → Int32) (t : Nat) : Prop := ∃ (la a b c d p gp ag sm sq : Nat), LI w la a b c d ∧ w 5 = nI p ∧ p < NP la b c d ∧ w 6 = nI gp ∧ 1 ≤ gp ∧ gp ≤ 50 ∧ w 7 = nI ag ∧ ag < gp ∧ w 9 = nI sm ∧ sm + ag ≤ t ∧ w 10 = nI sq ∧ sq ≤ 50 * sm
def pop6 (z : Nat) : Nat := z % 2 + z / 2 % 2 + z / 4 % 2 + z / 8 % 2 + z / 16 % 2 + z / 32 % 2
def GI (r : Nat → Int32) (t : Nat) : Prop := ∃ (la z mt : Nat), r 0 = nI la ∧ la ≤ 2 ∧ r 1 = nI z ∧ z < 64 ∧ pop6 z ≤ 4 ∧ r 3 = nI mt ∧ mt ≤ t
def Inv (S : SV) (t : Nat) : Prop := (∃ n, n ≤ 6 ∧ S 0 = nI n) ∧ (∃ m, m ≤ 4 ∧ S 1 = nI m) ∧ S 2 = nI t ∧ t ≤ 100200 ∧ (∃ x, x < 10000 ∧ S 3 = nI x) ∧ (∀ i, i < cn S → CI (cw S i) t) ∧ ∀ i, i < gn S → GI (gw S i) t
theorem cn_of {S : SV} {n : Nat} (h : S 0 = nI n) (hn : n ≤ 6) : cn S = n := by unfold cn; rw [h, nI_clamp (by omega)]
theorem gn_of {S : SV} {n : Nat} (h : S 1 = nI n) (hn : n ≤ 4) : gn S = n := by unfold gn; rw [h, nI_clamp (by omega)]
theorem Inv.cn_le {S : SV} {t : Nat} (h : Inv S t) : cn S ≤ 6 ∧ S 0 = nI (cn S) := by
  obtain ⟨⟨n, hn, h0⟩, -⟩ := h
  rw [cn_of h0 hn]
  exact ⟨hn, h0⟩
theorem Inv.gn_le {S : SV} {t : Nat} (h : Inv S t) : gn S ≤ 4 ∧ S 1 = nI (gn S) := by
  obtain ⟨-, ⟨n, hn, h0⟩, -⟩ := h
  rw [gn_of h0 hn]
  exact ⟨hn, h0⟩
theorem nI0 : (0 : Int32) = nI 0 := by decide
theorem nI1 : (1 : Int32) = nI 1 := by decide
theorem nI2 : (2 : Int32) = nI 2 := by decide
theorem nI_inj {a b : Nat} (ha : a < 2147483648) (hb : b < 2147483648) : nI a = nI b ↔ a = b := nI_eq ha hb
theorem nI_lt0 {b : Nat} (hb : b < 2147483648) : (0 : Int32) < nI b ↔ 0 < b := by rw [nI0]; exact nI_ltI (by decide) hb
theorem NP_bound {la b c d : Nat} (hb : b ≤ 50) : 1 ≤ NP la b c d ∧ NP la b c d ≤ 51 := by
  unfold NP
  by_cases h : la = 2 <;> by_cases h1 : 0 < b <;> by_cases h2 : 0 < c <;> by_cases h3 : 0 < d <;> simp [h, h1, h2, h3] <;> omega
theorem LI_places {w : Nat → Int32} {la a b c d : Nat} (h : LI w la a b c d) : places w = nI (NP la b c d) := by
  obtain ⟨h0, h1, h2, h3, h4, b0, b1, b2, b3, b4, b5, -⟩ := h
  unfold places NP
  rw [h0, h1, h2, h3, h4, nI2]
  have ite1 : ∀ (q : Nat), (if 0 < q then (1 : Int32) else 0) = nI (if 0 < q then 1 else 0) := by
    intro q
    by_cases hq : 0 < q <;> simp [hq] <;> decide
  by_cases hl : la = 2
  · rw [if_pos hl, if_pos (by rw [hl]), nI_1]
  · rw [if_neg hl, if_neg (by rw [nI_inj (by omega) (by omega)]; exact hl)]
    simp only [nI_lt0 (show a < 2147483648 by omega), nI_lt0 (show b < 2147483648 by omega), nI_lt0 (show c < 2147483648 by omega), nI_lt0 (show d < 2147483648 by omega), ite1, nI_add]
    rw [if_pos (by omega : 0 < a)]
theorem LI_law2 {w : Nat → Int32} {la a b c d : Nat} (h : LI w la a b c d) : w 0 = 2 ↔ la = 2 := by
  obtain ⟨h0, h1, h2, h3, h4, b0, -⟩ := h
  rw [h0, nI2, nI_inj (by omega) (by omega)]
theorem LI_law1 {w : Nat → Int32} {la a b c d : Nat} (h : LI w la a b c d) : w 0 = 1 ↔ la = 1 := by
  obtain ⟨h0, h1, h2, h3, h4, b0, -⟩ := h
  rw [h0, nI1, nI_inj (by omega) (by omega)]
/-- the remainder of numbers that are not negative -/
theorem jrem_nI {a b : Nat} (ha : a < 2147483648) (hb0 : 0 < b) (hb : b < 2147483648) : jrem (nI a) (nI b) = nI (a % b) := by
  have hd : nI a / nI b = nI (a / b) := by
    have hb1 : nI b ≠ -1 := by
      intro h
      have := congrArg Int32.toInt h
      rw [nI_toInt (by omega)] at this
      have e : (-1 : Int32).toInt = -1 := by decide
      rw [e] at this
      omega
    have hlt : a / b < 2147483648 := Nat.lt_of_le_of_lt (Nat.div_le_self a b) ha
    apply Int32.toInt_inj.mp
    rw [Int32.toInt_div_of_ne_right _ _ hb1, nI_toInt (by omega), nI_toInt (by omega), nI_toInt (by omega)]
    rw [Int.tdiv_eq_ediv_of_nonneg (by omega)]
    exact (Int.natCast_ediv a b).symm
  unfold jrem
  rw [hd, nI_mul, nI_sub (by rw [Nat.mul_comm]; exact Nat.mul_div_le a b)]
  congr 1
  have := Nat.div_add_mod a b
  rw [Nat.mul_comm] at this
  omega
theorem xnext_nI {x : Nat} (hx : x < 10000) : xnext (nI x) = nI ((x * 421 + 1663) % 10000) := by
  unfold xnext
  rw [show (421 : Int32) = nI 421 by decide, show (1663 : Int32) = nI 1663 by decide, show (10000 : Int32) = nI 10000 by decide, nI_mul, nI_add]
  exact jrem_nI (by omega) (by omega) (by omega)
/-- a place of the round has a gap -/
theorem LI_gapAt {w : Nat → Int32} {la a b c d : Nat} (h : LI w la a b c d) {p : Nat} (hp : p < NP la b c d) : ∃ gp, gapAt w (nI p) = nI gp ∧ 1 ≤ gp ∧ gp ≤ 50 := by
  have hl2 := LI_law2 h
  have hP := (NP_bound (la := la) (b := b) (c := c) (d := d) (h.2.2.2.2.2.2.2.2.1)).2
  obtain ⟨h0, h1, h2, h3, h4, b0, b1, b2, b3, b4, b5, q1, q2⟩ := h
  unfold gapAt
  by_cases hl : la = 2
  · rw [if_pos (hl2.mpr hl)]
    obtain ⟨c1, c2, c3⟩ := q1 hl
    by_cases hlt : nI p < w 2
    · rw [if_pos hlt]; exact ⟨a, h1, b1, b2⟩
    · rw [if_neg hlt]; exact ⟨c, h3, c2, b4⟩
  · rw [if_neg (fun e => hl (hl2.mp e)), nI_clamp (by omega)]
    obtain ⟨c1, c2⟩ := q2 hl
    unfold NP at hp
    rw [if_neg hl] at hp
    have e : p = 0 ∨ p = 1 ∨ p = 2 ∨ p = 3 := by
      by_cases hb : 0 < b <;> by_cases hc : 0 < c <;> by_cases hd : 0 < d <;> simp [hb, hc, hd] at hp <;> omega
    rcases e with rfl | rfl | rfl | rfl
    · exact ⟨a, h1, b1, b2⟩
    · refine ⟨b, h2, ?_, b3⟩
      by_cases hb : 0 < b
      · exact hb
      · exfalso
        have hb0 : b = 0 := by omega
        have hc0 := c1 hb0
        have hd0 := c2 hc0
        simp [hb0, hc0, hd0] at hp
    · refine ⟨c, h3, ?_, b4⟩
      by_cases hc : 0 < c
      · exact hc
      · exfalso
        have hc0 : c = 0 := by omega
        have hd0 := c2 hc0
        by_cases hb : 0 < b <;> simp [hb, hc0, hd0] at hp
    · refine ⟨d, h4, ?_, b5⟩
      by_cases hd : 0 < d
      · exact hd
      · exfalso
        have hd0 : d = 0 := by omega
        by_cases hb : 0 < b <;> by_cases hc : 0 < c <;> simp [hb, hc, hd0] at hp
theorem LI_congr {w w' : Nat → Int32} {la a b c d : Nat} (h : LI w la a b c d) (e : ∀ j, j < 5 → w' j = w j) : LI w' la a b c d := by
  unfold LI at *
  rw [e 0 (by decide), e 1 (by decide), e 2 (by decide), e 3 (by decide), e 4 (by decide)]
  exact h
theorem bx_nI {w : Nat → Int32} {x : Nat} (hx : x < 10000) : ∃ x', x' < 10000 ∧ bx w (nI x) = nI x' := by
  unfold bx
  by_cases h : w 0 = 1
  · rw [if_pos h, xnext_nI hx]; exact ⟨_, Nat.mod_lt _ (by decide), rfl⟩
  · rw [if_neg h]; exact ⟨x, hx, rfl⟩
/-- where the next gap stands -/
theorem bplace_nI {w : Nat → Int32} {la a b c d x q : Nat} (h : LI w la a b c d) (hx : x < 10000) (hq : q < 2147483648) : ∃ p, p < NP la b c d ∧ bplace w (nI x) (nI q) = nI p := by
  have hP := NP_bound (la := la) (b := b) (c := c) (d := d) (h.2.2.2.2.2.2.2.2.1)
  unfold bplace
  rw [LI_places h]
  by_cases h1 : w 0 = 1
  · rw [if_pos h1, xnext_nI hx, jrem_nI (by have := Nat.mod_lt (x * 421 + 1663) (show 0 < 10000 by decide); omega) (by omega) (by omega)]
    exact ⟨_, Nat.mod_lt _ (by omega), rfl⟩
  · rw [if_neg h1, jrem_nI hq (by omega) (by omega)]
    exact ⟨_, Nat.mod_lt _ (by omega), rfl⟩
theorem bw_lo (w : Nat → Int32) (x next : Int32) {j : Nat} (h5 : j ≠ 5) (h6 : j ≠ 6) (h7 : j ≠ 7) : bw w x next j = w j := by
  unfold bw
  rw [upd_ne _ _ h7, upd_ne _ _ h6, upd_ne _ _ h5]
/-- a clock that begins a gap -/
theorem CI_bw {w : Nat → Int32} {t la a b c d x q sm sq : Nat} (h : LI w la a b c d) (hx : x < 10000) (hq : q < 2147483648) (h9 : w 9 = nI sm) (hsm : sm ≤ t) (h10 : w 10 = nI sq) (hsq : sq ≤ 50 * sm) : CI (bw w (nI x) (nI q)) t := by
  obtain ⟨p, hp, e⟩ := bplace_nI h hx hq
  obtain ⟨gp, hg, g1, g2⟩ := LI_gapAt h hp
  refine ⟨la, a, b, c, d, p, gp, 0, sm, sq, LI_congr h (fun j hj => bw_lo w _ _ (by omega) (by omega) (by omega)), ?_, hp, ?_, g1, g2, ?_, by omega, ?_, by omega, ?_, hsq⟩
  · unfold bw; rw [upd_ne _ _ (by decide), upd_ne _ _ (by decide), upd_self]; exact e
  · unfold bw; rw [upd_ne _ _ (by decide), upd_self, e]; exact hg
  · unfold bw; rw [upd_self]; exact nI0
  · rw [bw_lo w _ _ (by decide) (by decide) (by decide)]; exact h9
  · rw [bw_lo w _ _ (by decide) (by decide) (by decide)]; exact h10
theorem CI_mono {w : Nat → Int32} {t t' : Nat} (h : CI w t) (ht : t ≤ t') : CI w t' := by
  obtain ⟨la, a, b, c, d, p, gp, ag, sm, sq, hL, h5, hp, h6, g1, g2, h7, ha, h9, hs, h10, hq⟩ := h
  exact ⟨la, a, b, c, d, p, gp, ag, sm, sq, hL, h5, hp, h6, g1, g2, h7, ha, h9, by omega, h10, hq⟩
theorem CI_congr {w w' : Nat → Int32} {t : Nat} (h : CI w t) (e : ∀ j, j < 15 → w' j = w j) : CI w' t := by
  obtain ⟨la, a, b, c, d, p, gp, ag, sm, sq, hL, h5, hp, h6, g1, g2, h7, ha, h9, hs, h10, hq⟩ := h
  exact ⟨la, a, b, c, d, p, gp, ag, sm, sq, LI_congr hL (fun j hj => e j (by omega)), by rw [e 5 (by decide)]; exact h5, hp, by rw [e 6 (by decide)]; exact h6, g1, g2, by rw [e 7 (by decide)]; exact h7, ha, by rw [e 9 (by decide)]; exact h9, hs, by rw [e 10 (by decide)]; exact h10, hq⟩
theorem GI_congr {r r' : Nat → Int32} {t : Nat} (h : GI r t) (e : ∀ j, j < 4 → r' j = r j) : GI r' t := by
  obtain ⟨la, z, mt, h0, h1, h2, h3, h4, h5, h6⟩ := h
  exact ⟨la, z, mt, by rw [e 0 (by decide)]; exact h0, h1, by rw [e 1 (by decide)]; exact h2, h3, h4, by rw [e 3 (by decide)]; exact h5, h6⟩
/-- a clock's tick: it tells, or it goes on -/
theorem CI_tick {w : Nat → Int32} {t : Nat} (h : CI w t) : (w 6 - (w 7 + 1) = 0 → ∀ x, x < 10000 → ∀ u : Nat → Int32, (∀ j, j < 15 → u j = tw (ow w) j) → CI (bw u (nI x) (w 5 + 1)) (t + 1)) ∧ (¬ w 6 - (w 7 + 1) = 0 → CI (ow w) (t + 1)) := by
  obtain ⟨la, a, b, c, d, p, gp, ag, sm, sq, hL, h5, hp, h6, g1, g2, h7, ha, h9, hs, h10, hq⟩ := h
  have hP := NP_bound (la := la) (b := b) (c := c) (d := d) (hL.2.2.2.2.2.2.2.2.1)
  have hr : w 6 - (w 7 + 1) = nI (gp - (ag + 1)) := by rw [h6, h7, nI_1, nI_sub (by omega)]
  have hz : w 6 - (w 7 + 1) = 0 ↔ gp = ag + 1 := by rw [hr, nI0, nI_inj (by omega) (by decide)]; omega
  constructor
  · intro h0 x hx u hu
    have hg := hz.mp h0
    rw [h5, nI_1]
    refine CI_bw (sm := sm + gp) (sq := sq + gp * gp) (LI_congr hL (fun j hj => ?_)) hx (by omega) ?_ (by omega) ?_ ?_
    · rw [hu j (by omega)]
      unfold tw ow
      rw [upd_ne _ _ (by omega), upd_ne _ _ (by omega), upd_ne _ _ (by omega), upd_ne _ _ (by omega), upd_ne _ _ (by omega)]
    · rw [hu 9 (by decide)]
      show w 9 + w 6 = _
      rw [h9, h6, nI_add]
    · rw [hu 10 (by decide)]
      show w 10 + w 6 * w 6 = _
      rw [h10, h6, nI_mul, nI_add]
    · have : gp * gp ≤ 50 * gp := Nat.mul_le_mul_right gp g2
      omega
  · intro h0
    have hg : ¬ gp = ag + 1 := fun e => h0 (hz.mpr e)
    refine ⟨la, a, b, c, d, p, gp, ag + 1, sm, sq, LI_congr hL (fun j hj => ?_), ?_, hp, ?_, g1, g2, ?_, by omega, ?_, by omega, ?_, hq⟩
    · unfold ow; rw [upd_ne _ _ (by omega)]
    · exact h5
    · exact h6
    · show w 7 + 1 = _
      rw [h7, nI_1]
    · exact h9
    · exact h10
/-- what the clocks' loop of a tick leaves -/
theorem eC_inv {S : SV} {t : Nat} (h : Inv S t) : ∀ i, i ≤ cn S → (∀ k, k < 3 → (eC S i).1 k = S k) ∧ (∃ x, x < 10000 ∧ (eC S i).1 3 = nI x) ∧ (∀ k j, j < 4 → gw (eC S i).1 k j = gw S k j) ∧ (∀ k, k < cn S → i ≤ k → ∀ j, j < 15 → cw (eC S i).1 k j = cw S k j) ∧ (∀ k, k < i → CI (cw (eC S i).1 k) (t + 1)) ∧ ∃ z, z < 2 ^ i ∧ (eC S i).2 = nI z := by
  have hn := h.cn_le.1
  have hx := h.2.2.2.2.1
  have hC := h.2.2.2.2.2.1
  intro i
  induction i with
  | zero => intro _; exact ⟨fun _ _ => rfl, hx, fun _ _ _ => rfl, fun _ _ _ _ _ => rfl, fun k hk => absurd hk (Nat.not_lt_zero k), 0, by decide, nI0⟩
  | succ i ih =>
    intro hi
    obtain ⟨a1, ⟨x, hx1, hx2⟩, a3, a4, a5, z, hz, a6⟩ := ih (by omega)
    have hCi : CI (cw (eC S i).1 i) t := CI_congr (hC i (by omega)) (fun j hj => a4 i (by omega) (Nat.le_refl i) j hj)
    obtain ⟨t1, t2⟩ := CI_tick hCi
    have hzi : ∃ z', z' < 2 ^ (i + 1) ∧ (eC S i).2 ||| (1 <<< (nI i &&& 31)) = nI z' := by
      rw [a6]
      have key : ∀ i, i < 6 → ∀ z, z < 64 → z < 2 ^ i → nI z ||| (1 <<< (nI i &&& 31)) = nI (z + 2 ^ i) := by decide +kernel
      have h64 : (2 : Nat) ^ i ≤ 64 := Nat.le_trans (Nat.pow_le_pow_right (by decide) (show i ≤ 6 by omega)) (by decide)
      refine ⟨z + 2 ^ i, by rw [Nat.pow_succ]; omega, key i (by omega) z (by omega) hz⟩
    by_cases hT : tC (eC S i).1 i
    · have e1 : (eC S (i + 1)).1 = beg (setC (eC S i).1 i (tw (ow (cw (eC S i).1 i)))) i (cw (eC S i).1 i 5 + 1) := by
        show sC _ i = _
        unfold sC
        rw [if_pos hT]
      have e2 : (eC S (i + 1)).2 = (eC S i).2 ||| (1 <<< (nI i &&& 31)) := by
        show (if _ then _ else _) = _
        rw [if_pos hT]
      rw [e1, e2]
      have hcw : ∀ j, j < 15 → cw (setC (eC S i).1 i (tw (ow (cw (eC S i).1 i)))) i j = tw (ow (cw (eC S i).1 i)) j := fun j hj => cw_setC _ _ _ hj
      unfold beg
      rw [setC_lo _ _ _ (show 3 < 4 by decide), hx2]
      refine ⟨fun k hk => ?_, ?_, fun k j hj => ?_, fun k hk hik j hj => ?_, fun k hk => ?_, hzi⟩
      · rw [upd_ne _ _ (by omega), setC_lo _ _ _ (by omega), setC_lo _ _ _ (by omega)]
        exact a1 k hk
      · rw [upd_self]
        obtain ⟨x', q1, q2⟩ := bx_nI (w := cw (setC (eC S i).1 i (tw (ow (cw (eC S i).1 i)))) i) hx1
        exact ⟨x', q1, q2⟩
      · rw [gw_upd_lo _ _ _ (by decide), gw_setC _ _ (by omega), gw_setC _ _ (by omega)]
        exact a3 k j hj
      · rw [cw_upd_lo _ _ _ (by decide), cw_setC_ne _ _ hj (by omega), cw_setC_ne _ _ hj (by omega)]
        exact a4 k hk (by omega) j hj
      · rw [cw_upd_lo _ _ _ (by decide)]
        by_cases hki : k = i
        · subst hki
          exact CI_congr (t1 hT x hx1 _ hcw) (fun j hj => cw_setC _ _ _ hj)
        · refine CI_congr (a5 k (by omega)) (fun j hj => ?_)
          rw [cw_setC_ne _ _ hj hki, cw_setC_ne _ _ hj hki]
    · have e1 : (eC S (i + 1)).1 = setC (eC S i).1 i (ow (cw (eC S i).1 i)) := by
        show sC _ i = _
        unfold sC
        rw [if_neg hT]
      have e2 : (eC S (i + 1)).2 = (eC S i).2 := by
        show (if _ then _ else _) = _
        rw [if_neg hT]
      rw [e1, e2]
      refine ⟨fun k hk => ?_, ⟨x, hx1, ?_⟩, fun k j hj => ?_, fun k hk hik j hj => ?_, fun k hk => ?_, z, by rw [Nat.pow_succ]; omega, a6⟩
      · rw [setC_lo _ _ _ (by omega)]
        exact a1 k hk
      · rw [setC_lo _ _ _ (by decide)]
        exact hx2
      · rw [gw_setC _ _ (by omega)]
        exact a3 k j hj
      · rw [cw_setC_ne _ _ hj (by omega)]
        exact a4 k hk (by omega) j hj
      · by_cases hki : k = i
        · subst hki
          exact CI_congr (t2 hT) (fun j hj => cw_setC _ _ _ hj)
        · exact CI_congr (a5 k (by omega)) (fun j hj => cw_setC_ne _ _ hj hki)
/-- bits of six: the number of them -/
theorem jbc_nI : ∀ z, z < 64 → jbc (nI z) = nI (pop6 z) := by decide +kernel
theorem iand_nI : ∀ a, a < 64 → ∀ b, b < 64 → nI a &&& nI b = nI (a &&& b) ∧ a &&& b < 64 := by decide +kernel
theorem pop6_le : ∀ z, z < 64 → pop6 z ≤ 6 := by decide +kernel
theorem GI_tick {r : Nat → Int32} {t z : Nat} (h : GI r t) (hz : z < 64) : GI (gtick r (nI z)) (t + 1) := by
  obtain ⟨la, y, mt, h0, h1, h2, h3, h4, h5, h6⟩ := h
  obtain ⟨q1, q2⟩ := iand_nI y h3 z hz
  have hp := pop6_le _ q2
  have e : gtick r (nI z) 3 = nI (if pop6 (y &&& z) < 2 then mt else mt + 1) := by
    unfold gtick
    rw [if_neg (by decide), if_pos rfl, h2, q1, jbc_nI _ q2, h5, nI_1, nI2]
    by_cases hc : pop6 (y &&& z) < 2
    · rw [if_pos hc, if_pos ((nI_ltI (by omega) (by decide)).mpr hc)]
    · rw [if_neg hc, if_neg (fun e => hc ((nI_ltI (by omega) (by decide)).mp e))]
  exact ⟨la, y, _, h0, h1, h2, h3, h4, e, by split <;> omega⟩
theorem eG_inv {S : SV} {z : Nat} (hz : z < 64) (t m : Nat) (hm : m ≤ 4) (hG : ∀ k, k < m → GI (gw S k) t) : ∀ i, i ≤ m → (∀ k, k < 4 → eG S (nI z) i k = S k) ∧ (∀ k, k < 6 → ∀ j, j < 15 → cw (eG S (nI z) i) k j = cw S k j) ∧ (∀ k, i ≤ k → ∀ j, j < 4 → gw (eG S (nI z) i) k j = gw S k j) ∧ ∀ k, k < i → GI (gw (eG S (nI z) i) k) (t + 1) := by
  intro i
  induction i with
  | zero => intro _; exact ⟨fun _ _ => rfl, fun _ _ _ _ => rfl, fun _ _ _ _ => rfl, fun k hk => absurd hk (Nat.not_lt_zero k)⟩
  | succ i ih =>
    intro hi
    obtain ⟨a1, a2, a3, a4⟩ := ih (by omega)
    have e : eG S (nI z) (i + 1) = setGr (eG S (nI z) i) i (gtick (gw (eG S (nI z) i) i) (nI z)) := rfl
    rw [e]
    refine ⟨fun k hk => ?_, fun k hk j hj => ?_, fun k hik j hj => ?_, fun k hk => ?_⟩
    · rw [setGr_lo _ _ _ hk]; exact a1 k hk
    · rw [cw_setGr _ _ _ hk hj]; exact a2 k hk j hj
    · rw [gw_setGr_ne _ _ hj (by omega)]; exact a3 k (by omega) j hj
    · by_cases hki : k = i
      · subst hki
        exact GI_congr (GI_tick (GI_congr (hG k (by omega)) (fun j hj => a3 k (Nat.le_refl k) j hj)) hz) (fun j hj => gw_setGr _ _ _ hj)
      · exact GI_congr (a4 k (by omega)) (fun j hj => gw_setGr_ne _ _ hj hki)
theorem ends_lo {S : SV} {t : Nat} (h : Inv S t) : ends S 0 = S 0 ∧ ends S 1 = S 1 ∧ cn (ends S) = cn S ∧ gn (ends S) = gn S := by
  obtain ⟨a1, -, -, -, -, z, hz, a6⟩ := eC_inv h (cn S) (Nat.le_refl _)
  have hn := h.cn_le.1
  have hz6 : z < 64 := Nat.lt_of_lt_of_le hz (Nat.le_trans (Nat.pow_le_pow_right (by decide) hn) (by decide))
  have e : ∀ k, k < 2 → ends S k = S k := by
    intro k hk
    unfold ends
    rw [upd_ne _ _ (by omega), a6]
    have : ∀ i, eG (eC S (cn S)).1 (nI z) i k = (eC S (cn S)).1 k := by
      intro i
      induction i with
      | zero => rfl
      | succ i ih => exact (setGr_lo _ _ _ (by omega)).trans ih
    rw [this, a1 k (by omega)]
  refine ⟨e 0 (by decide), e 1 (by decide), ?_, ?_⟩
  · unfold cn; rw [e 0 (by decide)]
  · unfold gn; rw [e 1 (by decide)]
theorem endsZ_nI {S : SV} {t : Nat} (h : Inv S t) : ∃ z, z < 64 ∧ endsZ S = nI z := by
  obtain ⟨-, -, -, -, -, z, hz, a6⟩ := eC_inv h (cn S) (Nat.le_refl _)
  exact ⟨z, Nat.lt_of_lt_of_le hz (Nat.le_trans (Nat.pow_le_pow_right (by decide) h.cn_le.1) (by decide)), a6⟩
/-- the state behind a tick is one, too -/
theorem Inv_ends {S : SV} {t : Nat} (h : Inv S t) (ht : t + 1 ≤ 100200) : Inv (ends S) (t + 1) := by
  obtain ⟨a1, ⟨x, hx1, hx2⟩, a3, a4, a5, z, hz, a6⟩ := eC_inv h (cn S) (Nat.le_refl _)
  obtain ⟨e0, e1, ec, eg⟩ := ends_lo h
  have hn := h.cn_le
  have hm := h.gn_le
  have hz6 : z < 64 := Nat.lt_of_lt_of_le hz (Nat.le_trans (Nat.pow_le_pow_right (by decide) hn.1) (by decide))
  obtain ⟨b1, b2, b3, b4⟩ := eG_inv hz6 t (gn S) hm.1 (fun k hk => GI_congr (h.2.2.2.2.2.2 k hk) (fun j hj => a3 k j hj)) (gn S) (Nat.le_refl _)
  refine ⟨⟨cn S, hn.1, by rw [e0]; exact hn.2⟩, ⟨gn S, hm.1, by rw [e1]; exact hm.2⟩, ?_, ht, ⟨x, hx1, ?_⟩, ?_, ?_⟩
  · unfold ends
    rw [upd_self, h.2.2.1, nI_1]
  · unfold ends
    rw [upd_ne _ _ (by decide), a6, b1 3 (by decide)]
    exact hx2
  · rw [ec]
    intro i hi
    unfold ends
    rw [cw_upd_lo _ _ _ (by decide), a6]
    exact CI_congr (a5 i hi) (fun j hj => b2 i (by omega) j hj)
  · rw [eg]
    intro i hi
    unfold ends
    rw [gw_upd_lo _ _ _ (by decide), a6]
    exact b4 i hi
end
section
/-! THE CLASS'S HALL AGAINST THE STATE -/
def rnd (la : Int32) (f : Nat → Int32) : Nat → Int32 := rndR (fun _ => 0) la f
/-- a clock's four rows say what the fifteen numbers w say -/
def CRr (r0 r1 r2 r3 w : Nat → Int32) : Prop := r0 0 = w 0 ∧ (∀ j, j < 4 → r1 j = w (1 + j)) ∧ r0 2 = w 5 ∧ r0 3 = w 6 ∧ r0 4 = w 6 - w 7 ∧ r0 5 = w 12 ∧ r0 6 = w 13 ∧ r0 7 = w 14 ∧ r2 0 = w 8 ∧ r2 1 = w 9 ∧ r2 2 = w 10 ∧ r2 3 + r2 3 = w 9 + w 10 ∧ r2 4 = w 11 ∧ ∀ j, j < 5 → r3 j = rnd (w 0) (fun j => w (1 + j)) j
abbrev CR (M : Mem) (c : Nat) (w : Nat → Int32) : Prop := CRr (M c) (M (c + 1)) (M (c + 2)) (M (c + 3)) w
theorem radd_congr {r r' : Nat → Int32} (gp t : Int32) (h : ∀ j, j < 5 → r j = r' j) : ∀ j, j < 5 → radd r gp t j = radd r' gp t j := by
  intro j hj
  unfold radd
  rw [h 0 (by decide), h 1 (by decide), h 2 (by decide), h 3 (by decide), h 4 (by decide), h j hj]
theorem radc_congr {r r' : Nat → Int32} (x : Int32) (h : ∀ j, j < 5 → r j = r' j) : ∀ j, j < 5 → radc r x j = radc r' x j := by
  intro j hj
  unfold radc
  split
  · exact radd_congr x 1 h j hj
  · exact h j hj
theorem rndR_congr {r r' f f' : Nat → Int32} (la : Int32) (h : ∀ j, j < 5 → r j = r' j) (hf : ∀ j, j < 4 → f j = f' j) : ∀ j, j < 5 → rndR r la f j = rndR r' la f' j := by
  intro j hj
  unfold rndR
  split
  · rw [hf 0 (by decide), hf 1 (by decide), hf 2 (by decide)]
    exact radd_congr _ _ (radd_congr _ _ h) j hj
  · show radc (radc (radc (radc r (f 0)) (f 1)) (f 2)) (f 3) j = radc (radc (radc (radc r' (f' 0)) (f' 1)) (f' 2)) (f' 3) j
    rw [hf 0 (by decide), hf 1 (by decide), hf 2 (by decide), hf 3 (by decide)]
    exact radc_congr _ (radc_congr _ (radc_congr _ (radc_congr _ h))) j hj
theorem CRr_congr {r0 r1 r2 r3 w w' : Nat → Int32} (h : CRr r0 r1 r2 r3 w) (e : ∀ j, j < 15 → w' j = w j) : CRr r0 r1 r2 r3 w' := by
  obtain ⟨h0, h1, h2, h3, h4, h5, h6, h7, h8, h9, h10, h11, h12, h13⟩ := h
  refine ⟨?_, fun j hj => ?_, ?_, ?_, ?_, ?_, ?_, ?_, ?_, ?_, ?_, ?_, ?_, fun j hj => ?_⟩
  · rw [e 0 (by decide)]; exact h0
  · rw [e _ (by omega)]; exact h1 j hj
  · rw [e 5 (by decide)]; exact h2
  · rw [e 6 (by decide)]; exact h3
  · rw [e 6 (by decide), e 7 (by decide)]; exact h4
  · rw [e 12 (by decide)]; exact h5
  · rw [e 13 (by decide)]; exact h6
  · rw [e 14 (by decide)]; exact h7
  · rw [e 8 (by decide)]; exact h8
  · rw [e 9 (by decide)]; exact h9
  · rw [e 10 (by decide)]; exact h10
  · rw [e 9 (by decide), e 10 (by decide)]; exact h11
  · rw [e 11 (by decide)]; exact h12
  · rw [e 0 (by decide), h13 j hj]
    exact rndR_congr _ (fun _ _ => rfl) (fun i hi => (e _ (by omega)).symm) j hj
/-- rows alike where they count -/
theorem CRr_rows {r0 r1 r2 r3 s0 s1 s2 s3 w : Nat → Int32} (h : CRr r0 r1 r2 r3 w) (e0 : ∀ j, j < 8 → j ≠ 1 → s0 j = r0 j) (e1 : ∀ j, j < 4 → s1 j = r1 j) (e2 : ∀ j, j < 5 → s2 j = r2 j) (e3 : ∀ j, j < 5 → s3 j = r3 j) : CRr s0 s1 s2 s3 w := by
  obtain ⟨h0, h1, h2, h3, h4, h5, h6, h7, h8, h9, h10, h11, h12, h13⟩ := h
  refine ⟨?_, fun j hj => ?_, ?_, ?_, ?_, ?_, ?_, ?_, ?_, ?_, ?_, ?_, ?_, fun j hj => ?_⟩
  · rw [e0 0 (by decide) (by decide)]; exact h0
  · rw [e1 j hj]; exact h1 j hj
  · rw [e0 2 (by decide) (by decide)]; exact h2
  · rw [e0 3 (by decide) (by decide)]; exact h3
  · rw [e0 4 (by decide) (by decide)]; exact h4
  · rw [e0 5 (by decide) (by decide)]; exact h5
  · rw [e0 6 (by decide) (by decide)]; exact h6
  · rw [e0 7 (by decide) (by decide)]; exact h7
  · rw [e2 0 (by decide)]; exact h8
  · rw [e2 1 (by decide)]; exact h9
  · rw [e2 2 (by decide)]; exact h10
  · rw [e2 3 (by decide)]; exact h11
  · rw [e2 4 (by decide)]; exact h12
  · rw [e3 j hj]; exact h13 j hj
/-- the gap that a place has, as the class and as the check read it -/
theorem gapF_gapAt {r0 r1 r2 r3 w : Nat → Int32} (h : CRr r0 r1 r2 r3 w) {la a b c d p : Nat} (hL : LI w la a b c d) (hp : p < NP la b c d) : gapF (r0 0) r1 (nI p) = gapAt w (nI p) := by
  have hl2 := LI_law2 hL
  have hP := (NP_bound (la := la) (b := b) (c := c) (d := d) (hL.2.2.2.2.2.2.2.2.1)).2
  obtain ⟨h0, h1, -⟩ := h
  unfold gapF gapAt
  rw [h0]
  by_cases hl : la = 2
  · rw [if_pos (hl2.mpr hl), if_pos (hl2.mpr hl), h1 0 (by decide), h1 1 (by decide), h1 2 (by decide)]
  · rw [if_neg (fun e => hl (hl2.mp e)), if_neg (fun e => hl (hl2.mp e)), nI_clamp (by omega)]
    have hp4 : p < 4 := by
      unfold NP at hp
      rw [if_neg hl] at hp
      by_cases hb : 0 < b <;> by_cases hc : 0 < c <;> by_cases hd : 0 < d <;> simp [hb, hc, hd] at hp <;> omega
    rw [if_pos ⟨nI_pos' (by omega), (nI_ltI (b := 4) (by omega) (by decide)).mpr hp4⟩, h1 p hp4]
/-- beginning a gap -/
theorem CRr_beg {r0 r1 r2 r3 w : Nat → Int32} (h : CRr r0 r1 r2 r3 w) (p gp : Int32) : CRr (cbegF r0 p gp) r1 r2 r3 (upd (upd (upd w 5 p) 6 gp) 7 0) := by
  obtain ⟨h0, h1, h2, h3, h4, h5, h6, h7, h8, h9, h10, h11, h12, h13⟩ := h
  refine ⟨h0, fun j hj => ?_, rfl, rfl, ?_, h5, h6, h7, h8, h9, h10, h11, h12, fun j hj => ?_⟩
  · rw [upd_ne _ _ (by omega), upd_ne _ _ (by omega), upd_ne _ _ (by omega)]; exact h1 j hj
  · show gp = gp - 0
    rw [Int32.sub_zero]
  · rw [h13 j hj]
    exact rndR_congr _ (fun _ _ => rfl) (fun i hi => by rw [upd_ne _ _ (by omega), upd_ne _ _ (by omega), upd_ne _ _ (by omega)]) j hj
theorem wait_half : ∀ q, q < 51 → nI q * (nI q + 1) / 2 * 1 + nI q * (nI q + 1) / 2 * 1 = nI q + nI q * nI q := by decide +kernel
/-- the tick's first half: age one more; and, with the gap told, the tally -/
theorem CRr_age {r0 r1 r2 r3 w : Nat → Int32} (h : CRr r0 r1 r2 r3 w) : CRr (upd r0 4 (r0 4 - 1)) r1 r2 r3 (ow w) := by
  obtain ⟨h0, h1, h2, h3, h4, h5, h6, h7, h8, h9, h10, h11, h12, h13⟩ := h
  refine ⟨h0, fun j hj => ?_, h2, h3, ?_, h5, h6, h7, h8, h9, h10, h11, h12, fun j hj => ?_⟩
  · unfold ow; rw [upd_ne _ _ (by omega)]; exact h1 j hj
  · show r0 4 - 1 = w 6 - (w 7 + 1)
    rw [h4, Int32.sub_sub]
  · rw [h13 j hj]
    exact rndR_congr _ (fun _ _ => rfl) (fun i hi => by unfold ow; rw [upd_ne _ _ (by omega)]) j hj
theorem CRr_told {r0 r1 r2 r3 w : Nat → Int32} (h : CRr r0 r1 r2 r3 w) {gp : Nat} (hg : w 6 = nI gp) (hg5 : gp ≤ 50) : CRr r0 r1 (radd r2 (r0 3) 1) r3 (tw w) := by
  obtain ⟨h0, h1, h2, h3, h4, h5, h6, h7, h8, h9, h10, h11, h12, h13⟩ := h
  have m1 : ∀ x : Int32, x * 1 = x := fun x => Int32.mul_one x
  refine ⟨h0, fun j hj => ?_, h2, h3, h4, h5, h6, h7, ?_, ?_, ?_, ?_, ?_, fun j hj => ?_⟩
  · unfold tw; rw [upd_ne _ _ (by omega), upd_ne _ _ (by omega), upd_ne _ _ (by omega), upd_ne _ _ (by omega)]; exact h1 j hj
  · show r2 0 + 1 = w 8 + 1
    rw [h8]
  · show r2 1 + r0 3 * 1 = w 9 + w 6
    rw [h9, h3, m1]
  · show r2 2 + r0 3 * r0 3 * 1 = w 10 + w 6 * w 6
    rw [h10, h3, m1]
  · show (r2 3 + r0 3 * (r0 3 + 1) / 2 * 1) + (r2 3 + r0 3 * (r0 3 + 1) / 2 * 1) = (w 9 + w 6) + (w 10 + w 6 * w 6)
    have hw := wait_half gp (by omega)
    rw [← hg] at hw
    rw [h3]
    have e1 : (r2 3 + w 6 * (w 6 + 1) / 2 * 1) + (r2 3 + w 6 * (w 6 + 1) / 2 * 1) = (r2 3 + r2 3) + (w 6 * (w 6 + 1) / 2 * 1 + w 6 * (w 6 + 1) / 2 * 1) := by ac_rfl
    rw [e1, h11, hw]
    ac_rfl
  · show (if r2 4 < r0 3 then r0 3 else r2 4) = (if w 6 < w 11 then w 11 else w 6)
    rw [h12, h3]
    by_cases c1 : w 11 < w 6
    · rw [if_pos c1, if_neg (fun c2 => Int32.lt_irrefl (Int32.lt_trans c1 c2))]
    · rw [if_neg c1]
      by_cases c2 : w 6 < w 11
      · rw [if_pos c2]
      · rw [if_neg c2]
        exact Int32.le_antisymm (Int32.not_lt.mp c2) (Int32.not_lt.mp c1)
  · rw [h13 j hj]
    exact rndR_congr _ (fun _ _ => rfl) (fun i hi => by unfold tw; rw [upd_ne _ _ (by omega), upd_ne _ _ (by omega), upd_ne _ _ (by omega), upd_ne _ _ (by omega)]) j hj
theorem rnd_many {r0 r1 r2 r3 w : Nat → Int32} (h : CRr r0 r1 r2 r3 w) : r3 0 = places w := by
  obtain ⟨h0, h1, h2, h3, h4, h5, h6, h7, h8, h9, h10, h11, h12, h13⟩ := h
  rw [h13 0 (by decide)]
  unfold rnd rndR places
  by_cases hl : w 0 = 2
  · rw [if_pos hl, if_pos hl]
    show (0 + w 2) + 1 = w 2 + 1
    rw [Int32.zero_add]
  · rw [if_neg hl, if_neg hl]
    have e : ∀ (r : Nat → Int32) (x : Int32), radc r x 0 = r 0 + (if 0 < x then 1 else 0) := by
      intro r x
      unfold radc
      by_cases hx : 0 < x
      · rw [if_pos hx, if_pos hx]; rfl
      · rw [if_neg hx, if_neg hx, Int32.add_zero]
    show radc (radc (radc (radc (fun _ => 0) (w 1)) (w 2)) (w 3)) (w 4) 0 = _
    rw [e, e, e, e, Int32.zero_add]
/-- a hall at the place h is as S says -/
def HR (M : Mem) (h : Nat) (S : SV) : Prop := M h 1 = S 0 ∧ M h 3 = S 1 ∧ M h 4 = S 2 ∧ M h 5 = S 3 ∧ (∀ i, i < cn S → CR M (h + 3 + 4 * i) (cw S i)) ∧ ∀ i, i < gn S → ∀ j, j < 4 → M (h + 27 + i) j = gw S i j
/-- nothing but the hall at h is touched -/
def frH (M M2 : Mem) (h : Nat) : Prop := ∀ a, (a < h ∨ h + 31 ≤ a) → M2 a = M a
theorem frH.refl (M : Mem) (h : Nat) : frH M M h := fun _ _ => rfl
theorem frH.trans {M M1 M2 : Mem} {h : Nat} (a : frH M M1 h) (b : frH M1 M2 h) : frH M M2 h := fun x hx => (b x hx).trans (a x hx)
theorem HR_congr {M : Mem} {h : Nat} {S S' : SV} (hr : HR M h S) (hc : cn S ≤ 6) (hg : gn S ≤ 4) (e : ∀ k, k < 110 → S' k = S k) : HR M h S' := by
  obtain ⟨h0, h1, h2, h3, h4, h5⟩ := hr
  have ec : cn S' = cn S := by unfold cn; rw [e 0 (by decide)]
  have eg : gn S' = gn S := by unfold gn; rw [e 1 (by decide)]
  refine ⟨by rw [e 0 (by decide)]; exact h0, by rw [e 1 (by decide)]; exact h1, by rw [e 2 (by decide)]; exact h2, by rw [e 3 (by decide)]; exact h3, ?_, ?_⟩
  · rw [ec]
    intro i hi
    exact CRr_congr (h4 i hi) (fun j hj => e _ (by omega))
  · rw [eg]
    intro i hi j hj
    rw [h5 i hi j hj]
    exact (e _ (by omega)).symm
theorem HR_row {M M2 : Mem} {h : Nat} {S : SV} (hr : HR M h S) (hc : cn S ≤ 6) (hg : gn S ≤ 4) (e : ∀ a, h ≤ a → a < h + 31 → M2 a = M a) : HR M2 h S := by
  obtain ⟨h0, h1, h2, h3, h4, h5⟩ := hr
  refine ⟨by rw [e h (by omega) (by omega)]; exact h0, by rw [e h (by omega) (by omega)]; exact h1, by rw [e h (by omega) (by omega)]; exact h2, by rw [e h (by omega) (by omega)]; exact h3, fun i hi => ?_, fun i hi j hj => ?_⟩
  · show CRr _ _ _ _ _
    rw [e _ (by omega) (by omega), e _ (by omega) (by omega), e _ (by omega) (by omega), e _ (by omega) (by omega)]
    exact h4 i hi
  · rw [e _ (by omega) (by omega)]
    exact h5 i hi j hj
/-- one clock's rows are changed, and x -/
theorem HR_clock {M M2 : Mem} {h : Nat} {S : SV} {i : Nat} {w : Nat → Int32} {x : Int32} (hr : HR M h S) (hc : cn S ≤ 6) (hg : gn S ≤ 4) (hi : i < 6) (e0 : M2 h = upd (M h) 5 x) (e : ∀ a, h ≤ a → a < h + 31 → a ≠ h → (a < h + 3 + 4 * i ∨ h + 7 + 4 * i ≤ a) → M2 a = M a) (hw : CR M2 (h + 3 + 4 * i) w) : HR M2 h (upd (setC S i w) 3 x) := by
  obtain ⟨h0, h1, h2, h3, h4, h5⟩ := hr
  have lo : ∀ k, k < 3 → upd (setC S i w) 3 x k = S k := fun k hk => by rw [upd_ne _ _ (by omega), setC_lo _ _ _ (by omega)]
  have ec : cn (upd (setC S i w) 3 x) = cn S := by unfold cn; rw [lo 0 (by decide)]
  have eg : gn (upd (setC S i w) 3 x) = gn S := by unfold gn; rw [lo 1 (by decide)]
  refine ⟨?_, ?_, ?_, ?_, ?_, ?_⟩
  · rw [e0, lo 0 (by decide)]; exact h0
  · rw [e0, lo 1 (by decide)]; exact h1
  · rw [e0, lo 2 (by decide)]; exact h2
  · rw [e0, upd_self, upd_self]
  · rw [ec]
    intro k hk
    rw [cw_upd_lo _ _ _ (by decide)]
    by_cases hki : k = i
    · subst hki
      exact CRr_congr hw (fun j hj => cw_setC _ _ _ hj)
    · show CRr _ _ _ _ _
      rw [e _ (by omega) (by omega) (by omega) (by omega), e _ (by omega) (by omega) (by omega) (by omega), e _ (by omega) (by omega) (by omega) (by omega), e _ (by omega) (by omega) (by omega) (by omega)]
      exact CRr_congr (h4 k hk) (fun j hj => cw_setC_ne _ _ hj hki)
  · rw [eg]
    intro k hk j hj
    rw [gw_upd_lo _ _ _ (by decide), gw_setC _ _ hi, e _ (by omega) (by omega) (by omega) (by omega)]
    exact h5 k hk j hj
end
section
/-! Hall: who is asked for -/
theorem nI_of_range {x : Int32} {n : Nat} (h0 : ¬ x < 0) (h1 : x < nI n) (hn : n < 2147483648) : ∃ i, i < n ∧ x = nI i := by
  obtain ⟨j, hj, rfl⟩ := nI_of h0
  exact ⟨j, (nI_ltI hj hn).mp h1, rfl⟩
theorem nI_out {x : Int32} {n : Nat} (h : x < 0 ∨ nI n ≤ x) (hn : n < 2147483648) : ∀ i, i < n → x ≠ nI i := by
  rintro i hi rfl
  rcases h with h | h
  · exact nI_pos (by omega) h
  · exact nI_ge hi hn h
set_option maxHeartbeats 4000000 in
set_option maxRecDepth 100000 in
theorem c_X3_clockAt (l : Launch) (g : Gm) (M : Mem) (h : Nat) (hk : kd h = 3) (n : Nat) (hn : n ≤ 6) (hM : M h 1 = nI n) (x : Int32) : Cn l yX3_clockAt cX3_clockAt 2 (some (.object "RenewalClocks$Clock")) 0 0 g [.ref (ad g h), .int x] M (fun v M2 => M2 = M ∧ ((∃ i, i < n ∧ x = nI i ∧ v = some (.ref (ad g (h + 3 + 4 * i)))) ∨ ((∀ i, i < n → x ≠ nI i) ∧ v = some .null))) := by
  refine Cn.intro (lv0 := [some (.ref (ad g h)), some (.int x)]) 0 (by decide +kernel) (Nat.le_of_ble_eq_true rfl) rfl (fun X F r => ?_)
  obtain ⟨hk1, hk2, hkC, hkG⟩ := kd_hall hk
  refine g_iload_n (pc := 0) F dX3_clockAt_0 rfl ?_
  refine g_if_lt (pc := 1) (tgt := 21) F dX3_clockAt_1 (by decide) (fun c1 => ?_) (fun c1 => ?_)
  · refine g_null (pc := 21) F dX3_clockAt_21 ?_
    refine g_aretN (pc := 22) F r dX3_clockAt_22 ⟨rfl, Or.inr ⟨nI_out (by first | exact Or.inl c1 | exact Or.inr c9) (by omega), rfl⟩⟩
  · refine g_iload_n (pc := 4) F dX3_clockAt_4 rfl ?_
    refine g_aload_n (pc := 5) F dX3_clockAt_5 rfl ?_
    refine g_geti (pc := 6) F fl_X3_29 (by assumption) rfl dX3_clockAt_6 ?_
    refine g_icmp_ge (pc := 9) (tgt := 21) F dX3_clockAt_9 (by decide) (fun c9 => ?_) (fun c9 => ?_)
    · rw [hM] at c9
      refine g_null (pc := 21) F dX3_clockAt_21 ?_
      refine g_aretN (pc := 22) F r dX3_clockAt_22 ⟨rfl, Or.inr ⟨nI_out (by first | exact Or.inl c1 | exact Or.inr c9) (by omega), rfl⟩⟩
    · rw [hM] at c9
      obtain ⟨i, hi, hx⟩ := nI_of_range c1 (Int32.not_le.mp c9) (by omega)
      refine g_iload_n (pc := 12) F dX3_clockAt_12 rfl ?_
      refine g_aload_n (pc := 13) F dX3_clockAt_13 rfl ?_
      refine g_getr (pc := 14) F fl_X3_11 (by assumption) rfl dX3_clockAt_14 ?_
      refine g_alenK (pc := 17) F (by assumption) (v := 6) (by decide) dX3_clockAt_17 ?_
      refine g_icmp_lt (pc := 18) (tgt := 23) F dX3_clockAt_18 (by decide) (fun c18 => ?_) (fun c18 => ?_)
      · refine g_aload_n (pc := 23) F dX3_clockAt_23 rfl ?_
        refine g_getr (pc := 24) F fl_X3_11 (by assumption) rfl dX3_clockAt_24 ?_
        refine g_iload_n (pc := 27) F dX3_clockAt_27 rfl ?_
        refine g_aaldK (pc := 28) (q := i) (r := h + 3 + 4 * i) F hk1 hx (by omega) (by omega) dX3_clockAt_28 ?_
        refine g_aret (pc := 29) F r dX3_clockAt_29 ?_
        exact ⟨rfl, Or.inl ⟨i, hi, hx, rfl⟩⟩
      · exact absurd (by rw [hx]; exact nI_lt (a := i) (b := 6) (by omega) (by decide)) c18

set_option maxHeartbeats 4000000 in
set_option maxRecDepth 100000 in
theorem c_X3_groupAt (l : Launch) (g : Gm) (M : Mem) (h : Nat) (hk : kd h = 3) (n : Nat) (hn : n ≤ 4) (hM : M h 3 = nI n) (x : Int32) : Cn l yX3_groupAt cX3_groupAt 2 (some (.object "RenewalClocks$Group")) 0 0 g [.ref (ad g h), .int x] M (fun v M2 => M2 = M ∧ ((∃ i, i < n ∧ x = nI i ∧ v = some (.ref (ad g (h + 27 + i)))) ∨ ((∀ i, i < n → x ≠ nI i) ∧ v = some .null))) := by
  refine Cn.intro (lv0 := [some (.ref (ad g h)), some (.int x)]) 0 (by decide +kernel) (Nat.le_of_ble_eq_true rfl) rfl (fun X F r => ?_)
  obtain ⟨hk1, hk2, hkC, hkG⟩ := kd_hall hk
  refine g_iload_n (pc := 0) F dX3_groupAt_0 rfl ?_
  refine g_if_lt (pc := 1) (tgt := 21) F dX3_groupAt_1 (by decide) (fun c1 => ?_) (fun c1 => ?_)
  · refine g_null (pc := 21) F dX3_groupAt_21 ?_
    refine g_aretN (pc := 22) F r dX3_groupAt_22 ⟨rfl, Or.inr ⟨nI_out (by first | exact Or.inl c1 | exact Or.inr c9) (by omega), rfl⟩⟩
  · refine g_iload_n (pc := 4) F dX3_groupAt_4 rfl ?_
    refine g_aload_n (pc := 5) F dX3_groupAt_5 rfl ?_
    refine g_geti (pc := 6) F fl_X3_36 (by assumption) rfl dX3_groupAt_6 ?_
    refine g_icmp_ge (pc := 9) (tgt := 21) F dX3_groupAt_9 (by decide) (fun c9 => ?_) (fun c9 => ?_)
    · rw [hM] at c9
      refine g_null (pc := 21) F dX3_groupAt_21 ?_
      refine g_aretN (pc := 22) F r dX3_groupAt_22 ⟨rfl, Or.inr ⟨nI_out (by first | exact Or.inl c1 | exact Or.inr c9) (by omega), rfl⟩⟩
    · rw [hM] at c9
      obtain ⟨i, hi, hx⟩ := nI_of_range c1 (Int32.not_le.mp c9) (by omega)
      refine g_iload_n (pc := 12) F dX3_groupAt_12 rfl ?_
      refine g_aload_n (pc := 13) F dX3_groupAt_13 rfl ?_
      refine g_getr (pc := 14) F fl_X3_19 (by assumption) rfl dX3_groupAt_14 ?_
      refine g_alenG (pc := 17) F (by assumption) (v := 4) (by decide) dX3_groupAt_17 ?_
      refine g_icmp_lt (pc := 18) (tgt := 23) F dX3_groupAt_18 (by decide) (fun c18 => ?_) (fun c18 => ?_)
      · refine g_aload_n (pc := 23) F dX3_groupAt_23 rfl ?_
        refine g_getr (pc := 24) F fl_X3_19 (by assumption) rfl dX3_groupAt_24 ?_
        refine g_iload_n (pc := 27) F dX3_groupAt_27 rfl ?_
        refine g_aaldG (pc := 28) (q := i) (r := h + 27 + i) F hk2 hx (by omega) (by omega) dX3_groupAt_28 ?_
        refine g_aret (pc := 29) F r dX3_groupAt_29 ?_
        exact ⟨rfl, Or.inl ⟨i, hi, hx, rfl⟩⟩
      · exact absurd (by rw [hx]; exact nI_lt (a := i) (b := 4) (by omega) (by decide)) c18

set_option maxHeartbeats 4000000 in
set_option maxRecDepth 100000 in
theorem c_X3_draw (l : Launch) (g : Gm) (M : Mem) (h : Nat) (hk : kd h = 3) (n : Int32) : Cn l yX3_draw cX3_draw 2 (some .int) 0 0 g [.ref (ad g h), .int n] M (fun v M2 => v = some (.int (if 0 < n then jrem (xnext (M h 5)) n else 0)) ∧ M2 = upd2 M h 5 (xnext (M h 5))) := by
  refine Cn.intro (lv0 := [some (.ref (ad g h)), some (.int n)]) 0 (by decide +kernel) (Nat.le_of_ble_eq_true rfl) rfl (fun X F r => ?_)
  obtain ⟨hk1, hk2, hkC, hkG⟩ := kd_hall hk
  refine g_aload_n (pc := 0) F dX3_draw_0 rfl ?_
  refine g_aload_n (pc := 1) F dX3_draw_1 rfl ?_
  refine g_geti (pc := 2) F fl_X3_23 (by assumption) rfl dX3_draw_2 ?_
  refine g_sipush (pc := 5) (v := 421) F dX3_draw_5 (by decide) ?_
  refine g_imul (pc := 8) F dX3_draw_8 ?_
  refine g_sipush (pc := 9) (v := 1663) F dX3_draw_9 (by decide) ?_
  refine g_iadd (pc := 12) F dX3_draw_12 ?_
  refine g_sipush (pc := 13) (v := 10000) F dX3_draw_13 (by decide) ?_
  refine g_irem (pc := 16) F (by decide) dX3_draw_16 ?_
  refine g_puti (pc := 17) F fl_X3_23 rfl rfl (by assumption) rfl dX3_draw_17 ?_
  refine g_iload_n (pc := 20) F dX3_draw_20 rfl ?_
  refine g_if_le (pc := 21) (tgt := 33) F dX3_draw_21 (by decide) (fun c21 => ?_) (fun c21 => ?_)
  · refine g_iconst (pc := 33) (v := 0) F dX3_draw_33 (by decide) ?_
    refine g_iret (pc := 34) F r dX3_draw_34 ?_
    refine ⟨?_, rfl⟩
    try simp only [upd2_self]
    first | (rw [if_pos (Int32.not_le.mp c21)]; rfl) | rw [if_neg (Int32.not_lt.mpr c21)]
  · refine g_aload_n (pc := 24) F dX3_draw_24 rfl ?_
    refine g_geti (pc := 25) F fl_X3_23 (by assumption) rfl dX3_draw_25 ?_
    refine g_iload_n (pc := 28) F dX3_draw_28 rfl ?_
    refine g_irem (pc := 29) F (fun e => by rw [e] at c21; exact c21 (Int32.le_refl 0)) dX3_draw_29 ?_
    refine g_goto (pc := 30) (tgt := 34) F dX3_draw_30 (by decide) ?_
    refine g_iret (pc := 34) F r dX3_draw_34 ?_
    refine ⟨?_, rfl⟩
    try simp only [upd2_self]
    first | (rw [if_pos (Int32.not_le.mp c21)]; rfl) | rw [if_neg (Int32.not_lt.mpr c21)]

/-- the place in turn, as the remainder has it -/
theorem turn_jrem {q P : Nat} (hq : q ≤ P) (hP0 : 0 < P) (hP : P ≤ 51) : (if nI q < nI P then nI q else 0) = jrem (nI q) (nI P) := by
  rw [jrem_nI (by omega) hP0 (by omega)]
  by_cases h : q < P
  · rw [if_pos ((nI_ltI (by omega) (by omega)).mpr h), Nat.mod_eq_of_lt h]
  · obtain rfl : q = P := by omega
    rw [if_neg (fun e => h ((nI_ltI (by omega) (by omega)).mp e)), Nat.mod_self]
    exact nI0
set_option maxHeartbeats 4000000 in
set_option maxRecDepth 100000 in
theorem c_X3_beginGap (l : Launch) (g : Gm) (M : Mem) (h c : Nat) (hk : kd h = 3) (hc : kd c = 0) (hhc : h + 3 ≤ c) (w : Nat → Int32) (hw : CR M c w) {la a b cc d x q : Nat} (hL : LI w la a b cc d) (hx : x < 10000) (hMx : M h 5 = nI x) (hq : w 5 + 1 = nI q) (hqN : q ≤ NP la b cc d) : Cn l yX3_beginGap cX3_beginGap 2 none 1 21 g [.ref (ad g h), .ref (ad g c)] M (fun v M2 => v = none ∧ M2 h = upd (M h) 5 (bx w (M h 5)) ∧ CR M2 c (bw w (M h 5) (w 5 + 1)) ∧ ∀ a, a ≠ h → a ≠ c → M2 a = M a) := by
  refine Cn.intro (lv0 := [some (.ref (ad g h)), some (.ref (ad g c))]) 0 (by decide +kernel) (Nat.le_of_ble_eq_true rfl) rfl (fun X F r => ?_)
  obtain ⟨hk1, hk2, hkC, hkG⟩ := kd_hall hk
  obtain ⟨hc1, hc2, hc3⟩ := kd_clk hc
  have hN := NP_bound (la := la) (b := b) (c := cc) (d := d) (hL.2.2.2.2.2.2.2.2.1)
  have hqP : q < 2147483648 := by omega
  refine g_aload_n (pc := 0) F dX3_beginGap_0 rfl ?_
  refine g_aload_n (pc := 1) F dX3_beginGap_1 rfl ?_
  refine g_geti (pc := 2) F fl_X3_68 (by assumption) rfl dX3_beginGap_2 ?_
  refine g_iconst (pc := 5) (v := 1) F dX3_beginGap_5 (by decide) ?_
  refine g_icmp_ne (pc := 6) (tgt := 23) F dX3_beginGap_6 (by decide) (fun c6 => ?_) (fun c6 => ?_)
  · rw [hw.1] at c6
    refine g_aload_n (pc := 23) F dX3_beginGap_23 rfl ?_
    refine g_callV (pc := 24) (rf2 := 0) (rl2 := 0) F cs_X3_84 (by assumption) rfl (by decide) (by rfl) (by rfl) (Nat.le_of_ble_eq_true (by rfl)) (by decide) dX3_beginGap_24 (c_X0_placeInTurn _ g _ c hc) (fun v M2 hz => ?_)
    obtain ⟨rfl, h2⟩ := hz
    rw [h2]
    refine g_callV (pc := 27) (rf2 := 0) (rl2 := 0) F cs_X3_88 (by assumption) rfl (by decide) (by rfl) (by rfl) (Nat.le_of_ble_eq_true (by rfl)) (by decide) dX3_beginGap_27 (c_X0_beginAt _ g _ c hc _) (fun v M2 hz => ?_)
    obtain ⟨rfl, rfl⟩ := hz
    refine g_vret (pc := 30) F r dX3_beginGap_30 ?_
    obtain ⟨p, hp, hpe⟩ := bplace_nI hL hx hqP
    have hg := gapF_gapAt hw hL hp
    refine ⟨rfl, ?_, ?_, fun a ha1 ha2 => ?_⟩
    · rw [updr_ne _ _ (show h ≠ c by omega)]
      unfold bx
      rw [if_neg c6]
      funext j
      unfold upd
      split
      · next e => rw [e]
      · rfl
    · unfold CR
      rw [updr_self, updr_ne _ _ (show c + 1 ≠ c by omega), updr_ne _ _ (show c + 2 ≠ c by omega), updr_ne _ _ (show c + 3 ≠ c by omega)]
      have e : (if M c 2 + 1 < M (c + 3) 0 then M c 2 + 1 else 0) = nI p := by
        rw [← hpe, rnd_many hw, LI_places hL, hw.2.2.1, hq, turn_jrem hqN (by omega) (by omega)]
        unfold bplace
        rw [if_neg c6, LI_places hL]
      rw [e, hg, hMx, hq, show bw w (nI x) (nI q) = upd (upd (upd w 5 (nI p)) 6 (gapAt w (nI p))) 7 0 by unfold bw; rw [hpe]]
      exact CRr_beg hw _ _
    · rw [updr_ne _ _ ha2]
  · rw [hw.1] at c6
    refine g_aload_n (pc := 9) F dX3_beginGap_9 rfl ?_
    refine g_aload_n (pc := 10) F dX3_beginGap_10 rfl ?_
    refine g_getr (pc := 11) F fl_X3_71 (by assumption) rfl dX3_beginGap_11 ?_
    refine g_geti (pc := 14) F fl_X3_75 (by assumption) rfl dX3_beginGap_14 ?_
    refine g_callV (pc := 17) (rf2 := 0) (rl2 := 0) F cs_X3_80 (by assumption) rfl (by decide) (by rfl) (by rfl) (Nat.le_of_ble_eq_true (by rfl)) (by decide) dX3_beginGap_17 (c_X3_draw _ g _ h hk _) (fun v M2 hz => ?_)
    obtain ⟨rfl, rfl⟩ := hz
    refine g_goto (pc := 20) (tgt := 27) F dX3_beginGap_20 (by decide) ?_
    refine g_callV (pc := 27) (rf2 := 0) (rl2 := 0) F cs_X3_88 (by assumption) rfl (by decide) (by rfl) (by rfl) (Nat.le_of_ble_eq_true (by rfl)) (by decide) dX3_beginGap_27 (c_X0_beginAt _ g _ c hc _) (fun v M2 hz => ?_)
    obtain ⟨rfl, rfl⟩ := hz
    refine g_vret (pc := 30) F r dX3_beginGap_30 ?_
    obtain ⟨p, hp, hpe⟩ := bplace_nI hL hx hqP
    have hg := gapF_gapAt hw hL hp
    refine ⟨rfl, ?_, ?_, fun a ha1 ha2 => ?_⟩
    · rw [updr_ne _ _ (show h ≠ c by omega)]
      rw [upd2_row]
      unfold bx
      rw [if_pos c6, hMx]
    · unfold CR
      rw [updr_self, updr_ne _ _ (show c + 1 ≠ c by omega), updr_ne _ _ (show c + 2 ≠ c by omega), updr_ne _ _ (show c + 3 ≠ c by omega), upd2_k _ _ _ (show c ≠ h by omega), upd2_k _ _ _ (show c + 1 ≠ h by omega), upd2_k _ _ _ (show c + 2 ≠ h by omega), upd2_k _ _ _ (show c + 3 ≠ h by omega)]
      have e : (if 0 < M (c + 3) 0 then jrem (xnext (M h 5)) (M (c + 3) 0) else 0) = nI p := by
        rw [← hpe, rnd_many hw, LI_places hL, if_pos ((nI_lt0 (by omega)).mpr (by omega)), hMx]
        unfold bplace
        rw [if_pos c6, LI_places hL]
      rw [e, hg, hMx, hq, show bw w (nI x) (nI q) = upd (upd (upd w 5 (nI p)) 6 (gapAt w (nI p))) 7 0 by unfold bw; rw [hpe]]
      exact CRr_beg hw _ _
    · rw [updr_ne _ _ ha2, upd2_k _ _ _ ha1]
end
section
/-- a group's row is changed -/
theorem HR_group {M : Mem} {h : Nat} {S : SV} {i : Nat} {r w : Nat → Int32} (hr : HR M h S) (hc : cn S ≤ 6) (hg : gn S ≤ 4) (hi : i < 4) (hw : ∀ j, j < 4 → r j = w j) : HR (updr M (h + 27 + i) r) h (setGr S i w) := by
  obtain ⟨h0, h1, h2, h3, h4, h5⟩ := hr
  have lo : ∀ k, k < 4 → setGr S i w k = S k := fun k hk => setGr_lo _ _ _ hk
  have ec : cn (setGr S i w) = cn S := by unfold cn; rw [lo 0 (by decide)]
  have eg : gn (setGr S i w) = gn S := by unfold gn; rw [lo 1 (by decide)]
  refine ⟨?_, ?_, ?_, ?_, ?_, ?_⟩
  · rw [updr_ne _ _ (by omega), lo 0 (by decide)]; exact h0
  · rw [updr_ne _ _ (by omega), lo 1 (by decide)]; exact h1
  · rw [updr_ne _ _ (by omega), lo 2 (by decide)]; exact h2
  · rw [updr_ne _ _ (by omega), lo 3 (by decide)]; exact h3
  · rw [ec]
    intro k hk
    show CRr _ _ _ _ _
    rw [updr_ne _ _ (by omega), updr_ne _ _ (by omega), updr_ne _ _ (by omega), updr_ne _ _ (by omega)]
    exact CRr_congr (h4 k hk) (fun j hj => cw_setGr _ _ _ (by omega) hj)
  · rw [eg]
    intro k hk j hj
    by_cases hki : k = i
    · subst hki
      rw [updr_self, gw_setGr _ _ _ hj]
      exact hw j hj
    · rw [updr_ne _ _ (by omega), gw_setGr_ne _ _ hj hki]
      exact h5 k hk j hj
theorem HR_now {M : Mem} {h : Nat} {S : SV} (hr : HR M h S) (hc : cn S ≤ 6) (v : Int32) : HR (upd2 M h 4 v) h (upd S 2 v) := by
  obtain ⟨h0, h1, h2, h3, h4, h5⟩ := hr
  have ec : cn (upd S 2 v) = cn S := by unfold cn; rw [upd_ne _ _ (by decide)]
  have eg : gn (upd S 2 v) = gn S := by unfold gn; rw [upd_ne _ _ (by decide)]
  refine ⟨?_, ?_, ?_, ?_, ?_, ?_⟩
  · rw [upd2_j _ _ _ (by decide), upd_ne _ _ (by decide)]; exact h0
  · rw [upd2_j _ _ _ (by decide), upd_ne _ _ (by decide)]; exact h1
  · rw [upd2_self, upd_self]
  · rw [upd2_j _ _ _ (by decide), upd_ne _ _ (by decide)]; exact h3
  · rw [ec]
    intro k hk
    show CRr _ _ _ _ _
    rw [upd2_k _ _ _ (by omega), upd2_k _ _ _ (by omega), upd2_k _ _ _ (by omega), upd2_k _ _ _ (by omega), cw_upd_lo _ _ _ (by decide)]
    exact h4 k hk
  · rw [eg]
    intro k hk j hj
    rw [upd2_k _ _ _ (by omega), gw_upd_lo _ _ _ (by decide)]
    exact h5 k hk j hj
theorem gtick_congr {r r' : Nat → Int32} (z : Int32) (h : ∀ j, j < 4 → r j = r' j) : ∀ j, j < 4 → gtick r z j = gtick r' z j := by
  intro j hj
  unfold gtick
  rw [h 1 (by decide), h 2 (by decide), h 3 (by decide), h j hj]
theorem peq_told (E : SV) (i : Nat) (u b : Nat → Int32) (x v : Int32) : ∀ k, k < 110 → upd (upd (setC (setC E i u) i b) 3 x) 2 v k = upd (setC (upd E 2 v) i b) 3 x k := by
  intro k _
  by_cases h2 : k = 2
  · subst h2
    rw [upd_self, upd_ne _ _ (by decide), setC_lo _ _ _ (by decide), upd_self]
  · rw [upd_ne _ _ h2]
    by_cases h3 : k = 3
    · subst h3; rw [upd_self, upd_self]
    · rw [upd_ne _ _ h3, upd_ne _ _ h3]
      unfold setC
      by_cases hr : 4 + 15 * i ≤ k ∧ k < 19 + 15 * i
      · rw [if_pos hr, if_pos hr]
      · rw [if_neg hr, if_neg hr, if_neg hr, upd_ne _ _ h2]
theorem peq_age (E : SV) (i : Nat) (b : Nat → Int32) (v : Int32) : ∀ k, k < 110 → upd (setC E i b) 2 v k = upd (setC (upd E 2 v) i b) 3 (E 3) k := by
  intro k _
  by_cases h2 : k = 2
  · subst h2
    rw [upd_self, upd_ne _ _ (by decide), setC_lo _ _ _ (by decide), upd_self]
  · rw [upd_ne _ _ h2]
    by_cases h3 : k = 3
    · subst h3; rw [upd_self, setC_lo _ _ _ (by decide)]
    · rw [upd_ne _ _ h3]
      unfold setC
      by_cases hr : 4 + 15 * i ≤ k ∧ k < 19 + 15 * i
      · rw [if_pos hr, if_pos hr]
      · rw [if_neg hr, if_neg hr, upd_ne _ _ h2]
/-- what a clock's tick leaves of the cells -/
theorem CR_tick {M : Mem} {c : Nat} {w : Nat → Int32} {t : Nat} (h : CR M c w) (hi : CI w t) : (M c 4 - 1 ≤ 0 ↔ w 6 - (w 7 + 1) = 0) ∧ (M c 4 - 1 ≤ 0 → CR (tickM M c) c (tw (ow w))) ∧ (¬ M c 4 - 1 ≤ 0 → CR (tickM M c) c (ow w)) ∧ ∀ a, a ≠ c → a ≠ c + 2 → tickM M c a = M a := by
  obtain ⟨la, a, b, cc, d, p, gp, ag, sm, sq, hL, h5, hp, h6, g1, g2, h7, ha, h9, hs, h10, hq⟩ := hi
  have e4 : M c 4 - 1 = nI (gp - (ag + 1)) := by
    rw [h.2.2.2.2.1, h6, h7, nI_sub (by omega), nI1, nI_sub (by omega)]
    congr 1
  have e6 : w 6 - (w 7 + 1) = nI (gp - (ag + 1)) := by rw [h6, h7, nI_1, nI_sub (by omega)]
  refine ⟨?_, fun ht => ?_, fun ht => ?_, fun x hx1 hx2 => ?_⟩
  · rw [e4, e6, nI0, nI_leI (by omega) (by decide), nI_inj (by omega) (by decide)]
    omega
  · unfold tickM
    rw [if_pos ht]
    show CRr _ _ _ _ _
    rw [updr_ne _ _ (show c ≠ c + 2 by omega), updr_self, updr_ne _ _ (show c + 1 ≠ c + 2 by omega), updr_ne _ _ (show c + 1 ≠ c by omega), updr_self, updr_ne _ _ (show c + 3 ≠ c + 2 by omega), updr_ne _ _ (show c + 3 ≠ c by omega)]
    have := CRr_told (CRr_age h) (gp := gp) (by unfold ow; rw [upd_ne _ _ (by decide)]; exact h6) g2
    rw [show upd (M c) 4 (M c 4 - 1) 3 = M c 3 from upd_ne _ _ (by decide)] at this
    exact this
  · unfold tickM
    rw [if_neg ht]
    show CRr _ _ _ _ _
    rw [updr_self, updr_ne _ _ (show c + 1 ≠ c by omega), updr_ne _ _ (show c + 2 ≠ c by omega), updr_ne _ _ (show c + 3 ≠ c by omega)]
    exact CRr_age h
  · unfold tickM
    split
    · rw [updr_ne _ _ hx2, updr_ne _ _ hx1]
    · rw [updr_ne _ _ hx1]
set_option maxHeartbeats 4000000 in
set_option maxRecDepth 100000 in
/-- a tick ends -/
theorem c_X3_endTick (l : Launch) (g : Gm) (M : Mem) (h : Nat) (hk : kd h = 3) (S : SV) (t : Nat) (hr : HR M h S) (hi : Inv S t) : Cn l yX3_endTick cX3_endTick 3 (some .int) 2 42 g [.ref (ad g h)] M (fun v M2 => v = some (.int (jbc (endsZ S))) ∧ HR M2 h (ends S) ∧ frH M M2 h) := by
  refine Cn.intro (lv0 := [some (.ref (ad g h)), none, none]) 2 (by decide +kernel) (Nat.le_of_ble_eq_true rfl) rfl (fun X F r => ?_)
  obtain ⟨hk1, hk2, hkC, hkG⟩ := kd_hall hk
  have hn := hi.cn_le
  have hm := hi.gn_le
  have hE : ∀ k, k < 3 → (eC S (cn S)).1 k = S k := (eC_inv hi (cn S) (Nat.le_refl _)).1
  have hEG : ∀ i k, k < 3 → eG (eC S (cn S)).1 (eC S (cn S)).2 i k = S k := by
    intro i k hk
    induction i with
    | zero => exact hE k hk
    | succ i ih => exact (setGr_lo _ _ _ (by omega)).trans ih
  have LG : ∀ (n i : Nat) (x : Int32) (M1 : Mem), i + n = gn S → x = nI i → HR M1 h (upd (eG (eC S (cn S)).1 (eC S (cn S)).2 i) 2 (S 2 + 1)) → frH M M1 h → G X g 3 M1 67 [some (.ref (ad g h)), some (.int (eC S (cn S)).2), some (.int x)] [] := by
    intro n
    induction n with
    | zero =>
      intro i x M1 hin hx hr1 hf1
      have hG0 : upd (eG (eC S (cn S)).1 (eC S (cn S)).2 i) 2 (S 2 + 1) 1 = nI (gn S) := by rw [upd_ne _ _ (by decide), hEG i 1 (by decide)]; exact hm.2
      obtain rfl : i = gn S := by omega
      refine g_iload_n (pc := 67) F dX3_endTick_67 rfl ?_
      refine g_aload_n (pc := 68) F dX3_endTick_68 rfl ?_
      refine g_geti (pc := 69) F fl_X3_36 (by assumption) rfl dX3_endTick_69 ?_
      refine g_icmp_ge (pc := 72) (tgt := 100) F dX3_endTick_72 (by decide) (fun c72 => ?_) (fun c72 => ?_)
      · refine g_iload_n (pc := 100) F dX3_endTick_100 rfl ?_
        refine g_callS (pc := 101) (rf2 := 0) (rl2 := 0) F cs_X3_102 (by rfl) (by rfl) (Nat.le_of_ble_eq_true (by rfl)) (by decide) dX3_endTick_101 (c_J6_bitCount_0f7a4 _ g _ _) (fun v M2 hz => ?_)
        obtain ⟨rfl, h2⟩ := hz
        rw [h2]
        refine g_iret (pc := 104) F r dX3_endTick_104 ?_
        exact ⟨rfl, hr1, hf1⟩
      · exact absurd (by rw [hr1.2.1, hG0, hx]; exact nI_le (by omega) (by omega)) c72
    | succ n ih =>
      intro i x M1 hin hx hr1 hf1
      have hG0 : upd (eG (eC S (cn S)).1 (eC S (cn S)).2 i) 2 (S 2 + 1) 1 = nI (gn S) := by rw [upd_ne _ _ (by decide), hEG i 1 (by decide)]; exact hm.2
      have hTc : cn (upd (eG (eC S (cn S)).1 (eC S (cn S)).2 i) 2 (S 2 + 1)) ≤ 6 := by
        have e : cn (upd (eG (eC S (cn S)).1 (eC S (cn S)).2 i) 2 (S 2 + 1)) = cn S := congrArg Int32.toNatClampNeg ((upd_ne _ _ (by decide)).trans (hEG i 0 (by decide)))
        rw [e]; exact hn.1
      have hTe : gn (upd (eG (eC S (cn S)).1 (eC S (cn S)).2 i) 2 (S 2 + 1)) = gn S := congrArg Int32.toNatClampNeg ((upd_ne _ _ (by decide)).trans (hEG i 1 (by decide)))
      have hTg : gn (upd (eG (eC S (cn S)).1 (eC S (cn S)).2 i) 2 (S 2 + 1)) ≤ 4 := by rw [hTe]; exact hm.1
      refine g_iload_n (pc := 67) F dX3_endTick_67 rfl ?_
      refine g_aload_n (pc := 68) F dX3_endTick_68 rfl ?_
      refine g_geti (pc := 69) F fl_X3_36 (by assumption) rfl dX3_endTick_69 ?_
      refine g_icmp_ge (pc := 72) (tgt := 100) F dX3_endTick_72 (by decide) (fun c72 => ?_) (fun c72 => ?_)
      · exact absurd c72 (by rw [hr1.2.1, hG0, hx]; exact nI_ge (by omega) (by omega))
      · refine g_iload_n (pc := 75) F dX3_endTick_75 rfl ?_
        refine g_aload_n (pc := 76) F dX3_endTick_76 rfl ?_
        refine g_getr (pc := 77) F fl_X3_19 (by assumption) rfl dX3_endTick_77 ?_
        refine g_alenG (pc := 80) F (by assumption) (v := 4) (by decide) dX3_endTick_80 ?_
        refine g_icmp_ge (pc := 81) (tgt := 100) F dX3_endTick_81 (by decide) (fun c81 => ?_) (fun c81 => ?_)
        · exact absurd c81 (by rw [hx]; exact nI_ge (a := i) (b := 4) (by omega) (by decide))
        · refine g_aload_n (pc := 84) F dX3_endTick_84 rfl ?_
          refine g_getr (pc := 85) F fl_X3_19 (by assumption) rfl dX3_endTick_85 ?_
          refine g_iload_n (pc := 88) F dX3_endTick_88 rfl ?_
          refine g_aaldG (pc := 89) (q := i) (r := h + 27 + i) F hk2 hx (by omega) (by omega) dX3_endTick_89 ?_
          refine g_iload_n (pc := 90) F dX3_endTick_90 rfl ?_
          refine g_callV (pc := 91) (rf2 := 1) (rl2 := 20) F cs_X3_100 (hkG i (by omega)) rfl (by decide) (by rfl) (by rfl) (Nat.le_of_ble_eq_true (by rfl)) (by decide) dX3_endTick_91 (c_X2_passTick _ g _ (h + 27 + i) (hkG i (by omega)) _) (fun v M2 hz => ?_)
          obtain ⟨rfl, rfl⟩ := hz
          refine g_iinc (pc := 94) F dX3_endTick_94 rfl rfl (by decide) rfl ?_
          refine g_goto (pc := 97) (tgt := 67) F dX3_endTick_97 (by decide) ?_
          refine G.sub [some (.ref (ad g h)), some (.int (eC S (cn S)).2), some (.int (x + Int32.ofInt 1))] ⟨rfl, rfl, rfl, trivial⟩ (ih (i + 1) _ _ (by omega) (by rw [hx]; exact nI_1 i) ?_ ?_)
          · have e1 : eG (eC S (cn S)).1 (eC S (cn S)).2 (i + 1) = setGr (eG (eC S (cn S)).1 (eC S (cn S)).2 i) i (gtick (gw (eG (eC S (cn S)).1 (eC S (cn S)).2 i) i) (eC S (cn S)).2) := rfl
            rw [e1]
            refine HR_congr (HR_group hr1 hTc hTg (i := i) (by omega) (gtick_congr _ (fun j hj => hr1.2.2.2.2.2 i (by omega) j hj))) ?_ ?_ (fun k hk => ?_)
            · show (setGr _ i _ 0).toNatClampNeg ≤ 6
              rw [setGr_lo _ _ _ (by decide)]
              exact hTc
            · show (setGr _ i _ 1).toNatClampNeg ≤ 4
              rw [setGr_lo _ _ _ (by decide)]
              exact hTg
            · rw [gw_upd_lo _ _ _ (by decide)]
              by_cases h2 : k = 2
              · subst h2; rw [upd_self, setGr_lo _ _ _ (by decide), upd_self]
              · rw [upd_ne _ _ h2]
                unfold setGr
                split
                · rfl
                · rw [upd_ne _ _ h2]
          · exact hf1.trans (fun y hy => updr_ne _ _ (by omega))
  have LC : ∀ (n i : Nat) (x : Int32) (M1 : Mem), i + n = cn S → x = nI i → HR M1 h (upd (eC S i).1 2 (S 2 + 1)) → frH M M1 h → G X g 3 M1 14 [some (.ref (ad g h)), some (.int (eC S i).2), some (.int x)] [] := by
    intro n
    induction n with
    | zero =>
      intro i x M1 hin hx hr1 hf1
      obtain ⟨ei0, -⟩ := eC_inv hi i (by omega)
      have hT0 : upd (eC S i).1 2 (S 2 + 1) 0 = nI (cn S) := by rw [upd_ne _ _ (by decide), ei0 0 (by decide)]; exact hn.2
      obtain rfl : i = cn S := by omega
      refine g_iload_n (pc := 14) F dX3_endTick_14 rfl ?_
      refine g_aload_n (pc := 15) F dX3_endTick_15 rfl ?_
      refine g_geti (pc := 16) F fl_X3_29 (by assumption) rfl dX3_endTick_16 ?_
      refine g_icmp_ge (pc := 19) (tgt := 65) F dX3_endTick_19 (by decide) (fun c19 => ?_) (fun c19 => ?_)
      · refine g_iconst (pc := 65) (v := 0) F dX3_endTick_65 (by decide) ?_
        refine g_istore_n (pc := 66) F dX3_endTick_66 (by decide) rfl ?_
        exact LG (gn S) 0 _ M1 (by omega) nI_0.symm hr1 hf1
      · exact absurd (by rw [hr1.1, hT0, hx]; exact nI_le (by omega) (by omega)) c19
    | succ n ih =>
      intro i x M1 hin hx hr1 hf1
      obtain ⟨ei0, ⟨xx, hxx, hx3⟩, ei3, ei4, -, -⟩ := eC_inv hi i (by omega)
      have hT0 : upd (eC S i).1 2 (S 2 + 1) 0 = nI (cn S) := by rw [upd_ne _ _ (by decide), ei0 0 (by decide)]; exact hn.2
      have hTe : cn (upd (eC S i).1 2 (S 2 + 1)) = cn S := by unfold cn; rw [upd_ne _ _ (by decide), ei0 0 (by decide)]
      have hTc : cn (upd (eC S i).1 2 (S 2 + 1)) ≤ 6 := by rw [hTe]; exact hn.1
      have hTg : gn (upd (eC S i).1 2 (S 2 + 1)) ≤ 4 := by unfold gn; rw [upd_ne _ _ (by decide), ei0 1 (by decide)]; exact hm.1
      have hCI : CI (cw (eC S i).1 i) t := CI_congr (hi.2.2.2.2.2.1 i (by omega)) (fun j hj => ei4 i (by omega) (Nat.le_refl i) j hj)
      have hCR : CR M1 (h + 3 + 4 * i) (cw (eC S i).1 i) := by
        have := hr1.2.2.2.2.1 i (by omega)
        rw [cw_upd_lo _ _ _ (by decide)] at this
        exact this
      obtain ⟨k1, k2, k3, k4⟩ := CR_tick hCR hCI
      obtain ⟨la, a, b, cc, d, p, gp, ag, sm, sq, hLI, hp5, hpN, -⟩ := hCI
      refine g_iload_n (pc := 14) F dX3_endTick_14 rfl ?_
      refine g_aload_n (pc := 15) F dX3_endTick_15 rfl ?_
      refine g_geti (pc := 16) F fl_X3_29 (by assumption) rfl dX3_endTick_16 ?_
      refine g_icmp_ge (pc := 19) (tgt := 65) F dX3_endTick_19 (by decide) (fun c19 => ?_) (fun c19 => ?_)
      · exact absurd c19 (by rw [hr1.1, hT0, hx]; exact nI_ge (by omega) (by omega))
      · refine g_iload_n (pc := 22) F dX3_endTick_22 rfl ?_
        refine g_aload_n (pc := 23) F dX3_endTick_23 rfl ?_
        refine g_getr (pc := 24) F fl_X3_11 (by assumption) rfl dX3_endTick_24 ?_
        refine g_alenK (pc := 27) F (by assumption) (v := 6) (by decide) dX3_endTick_27 ?_
        refine g_icmp_ge (pc := 28) (tgt := 65) F dX3_endTick_28 (by decide) (fun c28 => ?_) (fun c28 => ?_)
        · exact absurd c28 (by rw [hx]; exact nI_ge (a := i) (b := 6) (by omega) (by decide))
        · refine g_aload_n (pc := 31) F dX3_endTick_31 rfl ?_
          refine g_getr (pc := 32) F fl_X3_11 (by assumption) rfl dX3_endTick_32 ?_
          refine g_iload_n (pc := 35) F dX3_endTick_35 rfl ?_
          refine g_aaldK (pc := 36) (q := i) (r := h + 3 + 4 * i) F hk1 hx (by omega) (by omega) dX3_endTick_36 ?_
          refine g_callV (pc := 37) (rf2 := 1) (rl2 := 22) F cs_X3_96 (hkC i (by omega)) rfl (by decide) (by rfl) (by rfl) (Nat.le_of_ble_eq_true (by rfl)) (by decide) dX3_endTick_37 (c_X0_passTick _ g _ (h + 3 + 4 * i) (hkC i (by omega))) (fun v M2 hz => ?_)
          obtain ⟨rfl, rfl⟩ := hz
          refine g_if_eq (pc := 40) (tgt := 59) F dX3_endTick_40 (by decide) (fun c40 => ?_) (fun c40 => ?_)
          · have hT : ¬ M1 (h + 3 + 4 * i) 4 - 1 ≤ 0 := fun e => by unfold b2i at c40; rw [if_pos e] at c40; exact absurd c40 (by decide)
            refine g_iinc (pc := 59) F dX3_endTick_59 rfl rfl (by decide) rfl ?_
            refine g_goto (pc := 62) (tgt := 14) F dX3_endTick_62 (by decide) ?_
            refine G.sub [some (.ref (ad g h)), some (.int (eC S (i + 1)).2), some (.int (x + Int32.ofInt 1))] ⟨?_, ?_, ?_, trivial⟩ (ih (i + 1) _ _ (by omega) (by rw [hx]; exact nI_1 i) ?_ ?_)
            · rfl
            · show some (Value.int _) = some (Value.int (if _ then _ else _))
              rw [if_neg (fun e => hT (k1.mpr e))]
            · rfl
            · have e1 : (eC S (i + 1)).1 = setC (eC S i).1 i (ow (cw (eC S i).1 i)) := by
                show sC _ i = _
                unfold sC
                rw [if_neg (fun e => hT (k1.mpr e))]
              rw [e1]
              refine HR_congr (HR_clock (i := i) (w := ow (cw (eC S i).1 i)) (x := (eC S i).1 3) hr1 hTc hTg (by omega) ?_ (fun y y1 y2 y3 y4 => k4 y (by omega) (by omega)) (k3 hT)) ?_ ?_ (peq_age _ _ _ _)
              · rw [k4 h (by omega) (by omega)]
                funext j
                unfold upd
                split
                · next e => rw [e, hr1.2.2.2.1, upd_ne _ _ (by decide)]
                · rfl
              · show (upd (setC _ i _) 3 _ 0).toNatClampNeg ≤ 6
                rw [upd_ne _ _ (by decide), setC_lo _ _ _ (by decide)]
                exact hTc
              · show (upd (setC _ i _) 3 _ 1).toNatClampNeg ≤ 4
                rw [upd_ne _ _ (by decide), setC_lo _ _ _ (by decide)]
                exact hTg
            · exact hf1.trans (fun y hy => k4 y (by omega) (by omega))
          · have hT : M1 (h + 3 + 4 * i) 4 - 1 ≤ 0 := Classical.byContradiction (fun e => by unfold b2i at c40; rw [if_neg e] at c40; exact c40 rfl)
            refine g_iload_n (pc := 43) F dX3_endTick_43 rfl ?_
            refine g_iconst (pc := 44) (v := 1) F dX3_endTick_44 (by decide) ?_
            refine g_iload_n (pc := 45) F dX3_endTick_45 rfl ?_
            refine g_ishl (pc := 46) F dX3_endTick_46 ?_
            refine g_ior (pc := 47) F dX3_endTick_47 ?_
            refine g_istore_n (pc := 48) F dX3_endTick_48 (by decide) rfl ?_
            refine g_aload_n (pc := 49) F dX3_endTick_49 rfl ?_
            refine g_aload_n (pc := 50) F dX3_endTick_50 rfl ?_
            refine g_getr (pc := 51) F fl_X3_11 (by assumption) rfl dX3_endTick_51 ?_
            refine g_iload_n (pc := 54) F dX3_endTick_54 rfl ?_
            refine g_aaldK (pc := 55) (q := i) (r := h + 3 + 4 * i) F hk1 hx (by omega) (by omega) dX3_endTick_55 ?_
            have hCR2 := CRr_congr (w' := cw (setC (eC S i).1 i (tw (ow (cw (eC S i).1 i)))) i) (k2 hT) (fun j hj => cw_setC _ _ _ hj)
            have hMh : tickM M1 (h + 3 + 4 * i) h = M1 h := k4 h (by omega) (by omega)
            have hw5 : cw (setC (eC S i).1 i (tw (ow (cw (eC S i).1 i)))) i 5 + 1 = nI (p + 1) := by
              rw [cw_setC _ _ _ (by decide), ← nI_1, ← hp5]
              rfl
            have hLI2 : LI (cw (setC (eC S i).1 i (tw (ow (cw (eC S i).1 i)))) i) la a b cc d := LI_congr hLI (fun j hj => by
              rw [cw_setC _ _ _ (by omega)]
              unfold tw ow
              rw [upd_ne _ _ (by omega), upd_ne _ _ (by omega), upd_ne _ _ (by omega), upd_ne _ _ (by omega), upd_ne _ _ (by omega)])
            refine g_callV (pc := 56) (rf2 := 1) (rl2 := 21) F cs_X3_55 (by assumption) rfl (by decide) (by rfl) (by rfl) (Nat.le_of_ble_eq_true (by rfl)) (by decide) dX3_endTick_56 (c_X3_beginGap _ g _ h (h + 3 + 4 * i) hk (hkC i (by omega)) (by omega) _ hCR2 hLI2 hxx (by rw [hMh, hr1.2.2.2.1, upd_ne _ _ (by decide)]; exact hx3) hw5 (by omega)) (fun v M2 hz => ?_)
            obtain ⟨rfl, q1, q2, q3⟩ := hz
            refine g_iinc (pc := 59) F dX3_endTick_59 rfl rfl (by decide) rfl ?_
            refine g_goto (pc := 62) (tgt := 14) F dX3_endTick_62 (by decide) ?_
            refine G.sub [some (.ref (ad g h)), some (.int (eC S (i + 1)).2), some (.int (x + Int32.ofInt 1))] ⟨?_, ?_, ?_, trivial⟩ (ih (i + 1) _ _ (by omega) (by rw [hx]; exact nI_1 i) ?_ ?_)
            · rfl
            · show some (Value.int _) = some (Value.int (if _ then _ else _))
              rw [if_pos (k1.mp hT), hx]
            · rfl
            · have e1 : (eC S (i + 1)).1 = beg (setC (eC S i).1 i (tw (ow (cw (eC S i).1 i)))) i (cw (eC S i).1 i 5 + 1) := by
                show sC _ i = _
                unfold sC
                rw [if_pos (k1.mp hT)]
              rw [e1]
              unfold beg
              have e5 : cw (eC S i).1 i 5 + 1 = cw (setC (eC S i).1 i (tw (ow (cw (eC S i).1 i)))) i 5 + 1 := by rw [cw_setC _ _ _ (by decide)]; rfl
              have e3 : tickM M1 (h + 3 + 4 * i) h 5 = setC (eC S i).1 i (tw (ow (cw (eC S i).1 i))) 3 := by rw [hMh, hr1.2.2.2.1, upd_ne _ _ (by decide), setC_lo _ _ _ (by decide)]
              rw [e5]
              rw [e3] at q1 q2
              rw [hMh] at q1
              refine HR_congr (HR_clock (i := i) hr1 hTc hTg (by omega) q1 (fun y y1 y2 y3 y4 => (q3 y y3 (by omega)).trans (k4 y (by omega) (by omega))) q2) ?_ ?_ (peq_told _ _ _ _ _ _)
              · show (upd (setC _ i _) 3 _ 0).toNatClampNeg ≤ 6
                rw [upd_ne _ _ (by decide), setC_lo _ _ _ (by decide)]
                exact hTc
              · show (upd (setC _ i _) 3 _ 1).toNatClampNeg ≤ 4
                rw [upd_ne _ _ (by decide), setC_lo _ _ _ (by decide)]
                exact hTg
            · exact (hf1.trans (fun y hy => k4 y (by omega) (by omega))).trans (fun y hy => q3 y (by omega) (by omega))
  refine g_aload_n (pc := 0) F dX3_endTick_0 rfl ?_
  refine g_dup (pc := 1) F dX3_endTick_1 rfl ?_
  refine g_geti (pc := 2) F fl_X3_42 (by assumption) rfl dX3_endTick_2 ?_
  refine g_iconst (pc := 5) (v := 1) F dX3_endTick_5 (by decide) ?_
  refine g_iadd (pc := 6) F dX3_endTick_6 ?_
  refine g_puti (pc := 7) F fl_X3_42 rfl rfl (by assumption) rfl dX3_endTick_7 ?_
  refine g_iconst (pc := 10) (v := 0) F dX3_endTick_10 (by decide) ?_
  refine g_istore_n (pc := 11) F dX3_endTick_11 (by decide) rfl ?_
  refine g_iconst (pc := 12) (v := 0) F dX3_endTick_12 (by decide) ?_
  refine g_istore_n (pc := 13) F dX3_endTick_13 (by decide) rfl ?_
  exact LC (cn S) 0 _ _ (by omega) nI_0.symm (by rw [hr.2.2.1]; exact HR_now hr hn.1 _) (fun y hy => upd2_k _ _ _ (by omega))
end
section
/-! WHAT THE CALLS DO, on a state: the answer, and the state behind -/
abbrev inC (S : SV) (x : Int32) : Prop := 0 ≤ x ∧ x < S 0
abbrev inG (S : SV) (x : Int32) : Prop := 0 ≤ x ∧ x < S 1
abbrev ixN (x : Int32) : Nat := x.toNatClampNeg
theorem inC_of {S : SV} {t : Nat} (hi : Inv S t) {i : Nat} (h : i < cn S) : inC S (nI i) := ⟨nI_pos' (by have := hi.cn_le.1; omega), by rw [hi.cn_le.2]; exact nI_lt h (by have := hi.cn_le.1; omega)⟩
theorem inG_of {S : SV} {t : Nat} (hi : Inv S t) {i : Nat} (h : i < gn S) : inG S (nI i) := ⟨nI_pos' (by have := hi.gn_le.1; omega), by rw [hi.gn_le.2]; exact nI_lt h (by have := hi.gn_le.1; omega)⟩
theorem inC_ex {S : SV} {t : Nat} (hi : Inv S t) {x : Int32} (h : inC S x) : ∃ i, i < cn S ∧ x = nI i := by
  have h2 := h.2
  rw [hi.cn_le.2] at h2
  exact nI_of_range (Int32.not_lt.mpr h.1) h2 (by have := hi.cn_le.1; omega)
theorem inG_ex {S : SV} {t : Nat} (hi : Inv S t) {x : Int32} (h : inG S x) : ∃ i, i < gn S ∧ x = nI i := by
  have h2 := h.2
  rw [hi.gn_le.2] at h2
  exact nI_of_range (Int32.not_lt.mpr h.1) h2 (by have := hi.gn_le.1; omega)
theorem inC_not {S : SV} {t : Nat} (hi : Inv S t) {x : Int32} (h : ∀ i, i < cn S → x ≠ nI i) : ¬ inC S x := fun e => by
  obtain ⟨i, h1, h2⟩ := inC_ex hi e
  exact h i h1 h2
theorem inG_not {S : SV} {t : Nat} (hi : Inv S t) {x : Int32} (h : ∀ i, i < gn S → x ≠ nI i) : ¬ inG S x := fun e => by
  obtain ⟨i, h1, h2⟩ := inG_ex hi e
  exact h i h1 h2
theorem ixN_nI {i : Nat} (h : i < 2147483648) : ixN (nI i) = i := nI_clamp h
/-! truth as 1 and 0 -/
noncomputable def cb (P : Prop) : Int32 := @ite _ P (Classical.propDecidable P) 1 0
theorem cb_t {P : Prop} (h : P) : cb P = 1 := by unfold cb; rw [if_pos h]
theorem cb_f {P : Prop} (h : ¬ P) : cb P = 0 := by unfold cb; rw [if_neg h]
theorem cb_0 {P : Prop} (h : cb P = 0) : ¬ P := fun e => by rw [cb_t e] at h; exact absurd h (by decide)
theorem cb_1 {P : Prop} (h : ¬ cb P = 0) : P := Classical.byContradiction fun e => h (cb_f e)
/-! laws and their numbers -/
def lawP (x : Int32) : Prop := 0 ≤ x ∧ x ≤ 2
def gapP (x : Int32) : Prop := 1 ≤ x ∧ x ≤ 50
def mfP (x y : Int32) : Prop := y = 0 ∨ (x ≠ 0 ∧ gapP y)
def clockP (la a b c d : Int32) : Prop := lawP la ∧ gapP a ∧ (la = 2 → gapP b ∧ gapP c ∧ d = 0) ∧ (la ≠ 2 → mfP a b ∧ mfP b c ∧ mfP c d)
/-- a fresh clock's numbers, at the place p -/
def w0 (la a b c d p : Int32) : Nat → Int32 := fun j => if j = 0 then la else if j = 1 then a else if j = 2 then b else if j = 3 then c else if j = 4 then d else if j = 5 then p else 0
theorem lawP_nI {x : Int32} (h : lawP x) : ∃ n, n ≤ 2 ∧ x = nI n := nI_of2 (M := 2) (n := 2) rfl (Int32.not_lt.mpr h.1) h.2
theorem gapP_nI {x : Int32} (h : gapP x) : ∃ n, 1 ≤ n ∧ n ≤ 50 ∧ x = nI n := by
  have h0 : ¬ x < 0 := fun e => by
    have a1 := Int32.lt_iff_toInt_lt.mp e
    have a2 := Int32.le_iff_toInt_le.mp h.1
    have e0 : (0 : Int32).toInt = 0 := rfl
    have e1 : (1 : Int32).toInt = 1 := rfl
    omega
  obtain ⟨n, hn, rfl⟩ := nI_of2 (M := 50) (n := 50) rfl h0 h.2
  refine ⟨n, ?_, hn, rfl⟩
  have := h.1
  rw [nI1, nI_leI (by decide) (by omega)] at this
  exact this
theorem mfP_nI {x y : Int32} (h : mfP x y) : ∃ n, n ≤ 50 ∧ y = nI n ∧ (x = 0 → n = 0) := by
  rcases h with rfl | ⟨h1, h2⟩
  · exact ⟨0, by decide, nI0, fun _ => rfl⟩
  · obtain ⟨n, a1, a2, rfl⟩ := gapP_nI h2
    exact ⟨n, a2, rfl, fun e => absurd e h1⟩
theorem clockP_LI {la a b c d p : Int32} (h : clockP la a b c d) : ∃ l' a' b' c' d', LI (w0 la a b c d p) l' a' b' c' d' := by
  obtain ⟨h1, h2, h3, h4⟩ := h
  obtain ⟨l', l1, rfl⟩ := lawP_nI h1
  obtain ⟨a', a1, a2, rfl⟩ := gapP_nI h2
  by_cases hl : nI l' = 2
  · have hl' : l' = 2 := by rw [nI2, nI_inj (by omega) (by decide)] at hl; exact hl
    obtain ⟨g1, g2, rfl⟩ := h3 hl
    obtain ⟨b', b1, b2, rfl⟩ := gapP_nI g1
    obtain ⟨c', c1, c2, rfl⟩ := gapP_nI g2
    exact ⟨l', a', b', c', 0, rfl, rfl, rfl, rfl, nI0, l1, a1, a2, b2, c2, by decide, fun _ => ⟨b1, c1, rfl⟩, fun e => absurd hl' e⟩
  · have hl' : ¬ l' = 2 := fun e => hl (by rw [e]; exact nI2.symm)
    obtain ⟨g1, g2, g3⟩ := h4 hl
    obtain ⟨b', b1, rfl, b2⟩ := mfP_nI g1
    obtain ⟨c', c1, rfl, c2⟩ := mfP_nI g2
    obtain ⟨d', d1, rfl, d2⟩ := mfP_nI g3
    exact ⟨l', a', b', c', d', rfl, rfl, rfl, rfl, rfl, l1, a1, a2, b1, c1, d1, fun e => absurd e hl', fun _ => ⟨fun e => c2 (by rw [e]; exact nI0.symm), fun e => d2 (by rw [e]; exact nI0.symm)⟩⟩
/-! the calls -/
def addC (S : SV) (la a b c d : Int32) : SV := beg (upd (setC S (cn S) (w0 la a b c d 0)) 0 (S 0 + 1)) (cn S) 0
noncomputable def oClock (S : SV) (la a b c d : Int32) : Int32 × SV := @ite _ (clockP la a b c d) (Classical.propDecidable _) (if S 0 = 6 then (-1000003, S) else (S 0, addC S la a b c d)) (-1000001, S)
def wnd (S : SV) (i : Nat) : SV := setC (beg S i (cw S i 5 + 1)) i (upd (cw (beg S i (cw S i 5 + 1)) i) 14 (cw (beg S i (cw S i 5 + 1)) i 14 + 1))
def oWind (S : SV) (x : Int32) : Int32 × SV := if inC S x then (cw (wnd S (ixN x)) (ixN x) 6, wnd S (ixN x)) else (-1000001, S)
/-- so many ticks: the gaps told, and the state -/
def endsN (S : SV) : Nat → Int32 × SV
  | 0 => (0, S)
  | k + 1 => ((endsN S k).1 + jbc (endsZ (endsN S k).2), ends (endsN S k).2)
abbrev ticksP (k : Int32) : Prop := 1 ≤ k ∧ k ≤ 200
def oTick (S : SV) (k : Int32) : Int32 × SV := if ticksP k then (if S 2 + k ≤ 99999 then endsN S (ixN k) else (-1000003, S)) else (-1000001, S)
def pasC (S : SV) (i : Nat) : SV := setC S i (upd (upd (cw S i) 12 (cw S i 12 + 1)) 13 (cw S i 13 + (cw S i 6 - cw S i 7)))
def oPass (S : SV) (x : Int32) : Int32 × SV := if inC S x then (cw S (ixN x) 6 - cw S (ixN x) 7, pasC S (ixN x)) else (-1000001, S)
def g0 (la : Int32) : Nat → Int32 := fun j => if j = 0 then la else 0
noncomputable def oGroup (S : SV) (la : Int32) : Int32 × SV := @ite _ (lawP la) (Classical.propDecidable _) (if S 1 = 4 then (-1000003, S) else (S 1, upd (setGr S (gn S) (g0 la)) 1 (S 1 + 1))) (-1000001, S)
/-- is clock i in the set z -/
abbrev isIn (z : Int32) (i : Nat) : Prop := ¬ z &&& (1 <<< (nI i &&& 31)) = 0
def mem1 (S : SV) (gi : Nat) (z : Int32) : SV := setGr S gi (upd (gw S gi) 1 z)
def oJoin (S : SV) (gx x : Int32) : Int32 × SV := if inG S gx ∧ inC S x then (if cw S (ixN x) 0 ≠ gw S (ixN gx) 0 ∨ isIn (gw S (ixN gx) 1) (ixN x) then (-1000002, S) else if jbc (gw S (ixN gx) 1) < 4 then (jbc (gw S (ixN gx) 1 ||| (1 <<< (nI (ixN x) &&& 31))), mem1 S (ixN gx) (gw S (ixN gx) 1 ||| (1 <<< (nI (ixN x) &&& 31)))) else (-1000003, S)) else (-1000001, S)
def oLeave (S : SV) (gx x : Int32) : Int32 × SV := if inG S gx ∧ inC S x then (if isIn (gw S (ixN gx) 1) (ixN x) then (jbc (gw S (ixN gx) 1 &&& ((1 <<< (nI (ixN x) &&& 31)) ^^^ -1)), mem1 S (ixN gx) (gw S (ixN gx) 1 &&& ((1 <<< (nI (ixN x) &&& 31)) ^^^ -1))) else (-1000002, S)) else (-1000001, S)
/-! what a clock's rows say, of the changes of one clock -/
theorem CRr_wound {r0 r1 r2 r3 w : Nat → Int32} (h : CRr r0 r1 r2 r3 w) : CRr (upd r0 7 (r0 7 + 1)) r1 r2 r3 (upd w 14 (w 14 + 1)) := by
  obtain ⟨h0, h1, h2, h3, h4, h5, h6, h7, h8, h9, h10, h11, h12, h13⟩ := h
  refine ⟨h0, fun j hj => ?_, h2, h3, h4, h5, h6, ?_, h8, h9, h10, h11, h12, fun j hj => ?_⟩
  · rw [upd_ne _ _ (by omega)]; exact h1 j hj
  · rw [upd_self, upd_self, h7]
  · rw [h13 j hj]
    exact rndR_congr _ (fun _ _ => rfl) (fun i hi => by rw [upd_ne _ _ (by omega)]) j hj
theorem CRr_pass {r0 r1 r2 r3 w : Nat → Int32} (h : CRr r0 r1 r2 r3 w) : CRr (upd (upd r0 5 (r0 5 + 1)) 6 (r0 6 + r0 4)) r1 r2 r3 (upd (upd w 12 (w 12 + 1)) 13 (w 13 + (w 6 - w 7))) := by
  obtain ⟨h0, h1, h2, h3, h4, h5, h6, h7, h8, h9, h10, h11, h12, h13⟩ := h
  refine ⟨h0, fun j hj => ?_, h2, h3, h4, ?_, ?_, h7, h8, h9, h10, h11, h12, fun j hj => ?_⟩
  · rw [upd_ne _ _ (by omega), upd_ne _ _ (by omega)]; exact h1 j hj
  · show r0 5 + 1 = w 12 + 1
    rw [h5]
  · show r0 6 + r0 4 = w 13 + (w 6 - w 7)
    rw [h6, h4]
  · rw [h13 j hj]
    exact rndR_congr _ (fun _ _ => rfl) (fun i hi => by rw [upd_ne _ _ (by omega), upd_ne _ _ (by omega)]) j hj
theorem CR_set (M : Mem) (k : Nat) (la a b c d : Int32) : CR (csetM M k la a b c d) k (w0 la a b c d (-1)) := by
  unfold csetM CR
  rw [updr_ne _ _ (show k ≠ k + 3 by omega), updr_ne _ _ (show k ≠ k + 2 by omega), updr_self, updr_ne _ _ (show k + 1 ≠ k + 3 by omega), updr_ne _ _ (show k + 1 ≠ k + 2 by omega), updr_ne _ _ (show k + 1 ≠ k by omega), updr_self, updr_ne _ _ (show k + 2 ≠ k + 3 by omega), updr_self, updr_self]
  refine ⟨rfl, fun j hj => ?_, rfl, rfl, ?_, rfl, rfl, rfl, rfl, rfl, rfl, ?_, rfl, fun j hj => ?_⟩
  · match j, hj with
    | 0, _ | 1, _ | 2, _ | 3, _ => rfl
  · show (0 : Int32) = 0 - 0
    decide
  · show (0 : Int32) + 0 = 0 + 0
    rfl
  · refine rndR_congr _ (fun i hi => by unfold rzero; rw [if_pos hi]) (fun i hi => ?_) j hj
    match i, hi with
    | 0, _ | 1, _ | 2, _ | 3, _ => rfl
/-- one clock's rows are changed, and nothing else -/
theorem HR_clk {M M2 : Mem} {h : Nat} {S : SV} {i : Nat} {w : Nat → Int32} (hr : HR M h S) (hc : cn S ≤ 6) (hg : gn S ≤ 4) (hi : i < 6) (e : ∀ a, h ≤ a → a < h + 31 → (a < h + 3 + 4 * i ∨ h + 7 + 4 * i ≤ a) → M2 a = M a) (hw : CR M2 (h + 3 + 4 * i) w) : HR M2 h (setC S i w) := by
  refine HR_congr (HR_clock (x := S 3) hr hc hg hi ?_ (fun a a1 a2 a3 a4 => e a a1 a2 a4) hw) ?_ ?_ (fun k hk => ?_)
  · rw [e h (by omega) (by omega) (by omega)]
    funext j
    unfold upd
    split
    · next q => rw [q]; exact hr.2.2.2.1
    · rfl
  · show (upd (setC S i w) 3 (S 3) 0).toNatClampNeg ≤ 6
    rw [upd_ne _ _ (by decide), setC_lo _ _ _ (by decide)]
    exact hc
  · show (upd (setC S i w) 3 (S 3) 1).toNatClampNeg ≤ 4
    rw [upd_ne _ _ (by decide), setC_lo _ _ _ (by decide)]
    exact hg
  · by_cases h3 : k = 3
    · subst h3; rw [upd_self, setC_lo _ _ _ (by decide)]
    · rw [upd_ne _ _ h3]
theorem cn_beg (S : SV) (i : Nat) (q : Int32) : cn (beg S i q) = cn S := by
  unfold cn beg
  rw [upd_ne _ _ (by decide), setC_lo _ _ _ (by decide)]
theorem gn_beg (S : SV) (i : Nat) (q : Int32) : gn (beg S i q) = gn S := by
  unfold gn beg
  rw [upd_ne _ _ (by decide), setC_lo _ _ _ (by decide)]
end
section
set_option maxHeartbeats 4000000 in
set_option maxRecDepth 100000 in
theorem c_X7_isLaw (l : Launch) (g : Gm) (M : Mem) (x : Int32) : Cn l yX7_isLaw cX7_isLaw 1 (some .boolean) 0 0 g [.int x] M (fun v M2 => v = some (.int (cb (lawP x))) ∧ M2 = M) := by
  refine Cn.intro (lv0 := [some (.int x)]) 0 (by decide +kernel) (Nat.le_of_ble_eq_true rfl) rfl (fun X F r => ?_)
  refine g_iload_n (pc := 0) F dX7_isLaw_0 rfl ?_
  refine g_if_lt (pc := 1) (tgt := 13) F dX7_isLaw_1 (by decide) (fun c1 => ?_) (fun c1 => ?_)
  · refine g_iconst (pc := 13) (v := 0) F dX7_isLaw_13 (by decide) ?_
    refine g_zret (pc := 14) F (by decide) r dX7_isLaw_14 ?_
    exact ⟨congrArg (fun z => some (Value.int z)) (cb_f (fun e => Int32.not_lt.mpr e.1 c1)).symm, rfl⟩
  · refine g_iload_n (pc := 4) F dX7_isLaw_4 rfl ?_
    refine g_iconst (pc := 5) (v := 2) F dX7_isLaw_5 (by decide) ?_
    refine g_icmp_gt (pc := 6) (tgt := 13) F dX7_isLaw_6 (by decide) (fun c6 => ?_) (fun c6 => ?_)
    · refine g_iconst (pc := 13) (v := 0) F dX7_isLaw_13 (by decide) ?_
      refine g_zret (pc := 14) F (by decide) r dX7_isLaw_14 ?_
      exact ⟨congrArg (fun z => some (Value.int z)) (cb_f (fun e => Int32.not_lt.mpr e.2 c6)).symm, rfl⟩
    · refine g_iconst (pc := 9) (v := 1) F dX7_isLaw_9 (by decide) ?_
      refine g_goto (pc := 10) (tgt := 14) F dX7_isLaw_10 (by decide) ?_
      refine g_zret (pc := 14) F (by decide) r dX7_isLaw_14 ?_
      exact ⟨congrArg (fun z => some (Value.int z)) (cb_t ⟨Int32.not_lt.mp c1, Int32.not_lt.mp c6⟩).symm, rfl⟩

set_option maxHeartbeats 4000000 in
set_option maxRecDepth 100000 in
theorem c_X7_isGap (l : Launch) (g : Gm) (M : Mem) (x : Int32) : Cn l yX7_isGap cX7_isGap 1 (some .boolean) 0 0 g [.int x] M (fun v M2 => v = some (.int (cb (gapP x))) ∧ M2 = M) := by
  refine Cn.intro (lv0 := [some (.int x)]) 0 (by decide +kernel) (Nat.le_of_ble_eq_true rfl) rfl (fun X F r => ?_)
  refine g_iload_n (pc := 0) F dX7_isGap_0 rfl ?_
  refine g_iconst (pc := 1) (v := 1) F dX7_isGap_1 (by decide) ?_
  refine g_icmp_lt (pc := 2) (tgt := 15) F dX7_isGap_2 (by decide) (fun c2 => ?_) (fun c2 => ?_)
  · refine g_iconst (pc := 15) (v := 0) F dX7_isGap_15 (by decide) ?_
    refine g_zret (pc := 16) F (by decide) r dX7_isGap_16 ?_
    exact ⟨congrArg (fun z => some (Value.int z)) (cb_f (fun e => Int32.not_lt.mpr e.1 c2)).symm, rfl⟩
  · refine g_iload_n (pc := 5) F dX7_isGap_5 rfl ?_
    refine g_bipush (pc := 6) (v := 50) F dX7_isGap_6 (by decide) ?_
    refine g_icmp_gt (pc := 8) (tgt := 15) F dX7_isGap_8 (by decide) (fun c8 => ?_) (fun c8 => ?_)
    · refine g_iconst (pc := 15) (v := 0) F dX7_isGap_15 (by decide) ?_
      refine g_zret (pc := 16) F (by decide) r dX7_isGap_16 ?_
      exact ⟨congrArg (fun z => some (Value.int z)) (cb_f (fun e => Int32.not_lt.mpr e.2 c8)).symm, rfl⟩
    · refine g_iconst (pc := 11) (v := 1) F dX7_isGap_11 (by decide) ?_
      refine g_goto (pc := 12) (tgt := 16) F dX7_isGap_12 (by decide) ?_
      refine g_zret (pc := 16) F (by decide) r dX7_isGap_16 ?_
      exact ⟨congrArg (fun z => some (Value.int z)) (cb_t ⟨Int32.not_lt.mp c2, Int32.not_lt.mp c8⟩).symm, rfl⟩

set_option maxHeartbeats 4000000 in
set_option maxRecDepth 100000 in
theorem c_X7_mayFollow (l : Launch) (g : Gm) (M : Mem) (x y : Int32) : Cn l yX7_mayFollow cX7_mayFollow 2 (some .boolean) 1 20 g [.int x, .int y] M (fun v M2 => v = some (.int (cb (mfP x y))) ∧ M2 = M) := by
  refine Cn.intro (lv0 := [some (.int x), some (.int y)]) 0 (by decide +kernel) (Nat.le_of_ble_eq_true rfl) rfl (fun X F r => ?_)
  refine g_iload_n (pc := 0) F dX7_mayFollow_0 rfl ?_
  refine g_if_eq (pc := 1) (tgt := 15) F dX7_mayFollow_1 (by decide) (fun c1 => ?_) (fun c1 => ?_)
  · refine g_iconst (pc := 15) (v := 1) F dX7_mayFollow_15 (by decide) ?_
    refine g_goto (pc := 16) (tgt := 20) F dX7_mayFollow_16 (by decide) ?_
    refine g_zret (pc := 20) F (by decide) r dX7_mayFollow_20 ?_
    exact ⟨congrArg (fun z => some (Value.int z)) (cb_t (Or.inl c1)).symm, rfl⟩
  · refine g_iload_n (pc := 4) F dX7_mayFollow_4 rfl ?_
    refine g_if_eq (pc := 5) (tgt := 19) F dX7_mayFollow_5 (by decide) (fun c5 => ?_) (fun c5 => ?_)
    · refine g_iconst (pc := 19) (v := 0) F dX7_mayFollow_19 (by decide) ?_
      refine g_zret (pc := 20) F (by decide) r dX7_mayFollow_20 ?_
      exact ⟨congrArg (fun z => some (Value.int z)) (cb_f (fun e => e.elim c1 (fun q => q.1 c5))).symm, rfl⟩
    · refine g_iload_n (pc := 8) F dX7_mayFollow_8 rfl ?_
      refine g_callS (pc := 9) (rf2 := 0) (rl2 := 0) F cs_X7_216 (by rfl) (by rfl) (Nat.le_of_ble_eq_true (by rfl)) (by decide) dX7_mayFollow_9 (c_X7_isGap _ g _ _) (fun v M2 hz => ?_)
      obtain ⟨rfl, h2⟩ := hz
      rw [h2]
      refine g_if_eq (pc := 12) (tgt := 19) F dX7_mayFollow_12 (by decide) (fun c12 => ?_) (fun c12 => ?_)
      · refine g_iconst (pc := 19) (v := 0) F dX7_mayFollow_19 (by decide) ?_
        refine g_zret (pc := 20) F (by decide) r dX7_mayFollow_20 ?_
        exact ⟨congrArg (fun z => some (Value.int z)) (cb_f (fun e => e.elim c1 (fun q => cb_0 c12 q.2))).symm, rfl⟩
      · refine g_iconst (pc := 15) (v := 1) F dX7_mayFollow_15 (by decide) ?_
        refine g_goto (pc := 16) (tgt := 20) F dX7_mayFollow_16 (by decide) ?_
        refine g_zret (pc := 20) F (by decide) r dX7_mayFollow_20 ?_
        exact ⟨congrArg (fun z => some (Value.int z)) (cb_t (Or.inr ⟨c5, cb_1 c12⟩)).symm, rfl⟩

set_option maxHeartbeats 4000000 in
set_option maxRecDepth 100000 in
theorem c_X7_isClock (l : Launch) (g : Gm) (M : Mem) (la a b c d : Int32) : Cn l yX7_isClock cX7_isClock 5 (some .boolean) 2 41 g [.int la, .int a, .int b, .int c, .int d] M (fun v M2 => v = some (.int (cb (clockP la a b c d))) ∧ M2 = M) := by
  refine Cn.intro (lv0 := [some (.int la), some (.int a), some (.int b), some (.int c), some (.int d)]) 0 (by decide +kernel) (Nat.le_of_ble_eq_true rfl) rfl (fun X F r => ?_)
  refine g_iload_n (pc := 0) F dX7_isClock_0 rfl ?_
  refine g_callS (pc := 1) (rf2 := 0) (rl2 := 0) F cs_X7_212 (by rfl) (by rfl) (Nat.le_of_ble_eq_true (by rfl)) (by decide) dX7_isClock_1 (c_X7_isLaw _ g _ _) (fun v M2 hz => ?_)
  obtain ⟨rfl, h2⟩ := hz
  rw [h2]
  refine g_if_eq (pc := 4) (tgt := 14) F dX7_isClock_4 (by decide) (fun c4 => ?_) (fun c4 => ?_)
  · refine g_iconst (pc := 14) (v := 0) F dX7_isClock_14 (by decide) ?_
    refine g_zret (pc := 15) F (by decide) r dX7_isClock_15 ?_
    exact ⟨congrArg (fun z => some (Value.int z)) (cb_f (fun e => cb_0 c4 e.1)).symm, rfl⟩
  · refine g_iload_n (pc := 7) F dX7_isClock_7 rfl ?_
    refine g_callS (pc := 8) (rf2 := 0) (rl2 := 0) F cs_X7_216 (by rfl) (by rfl) (Nat.le_of_ble_eq_true (by rfl)) (by decide) dX7_isClock_8 (c_X7_isGap _ g _ _) (fun v M2 hz => ?_)
    obtain ⟨rfl, h2⟩ := hz
    rw [h2]
    refine g_if_ne (pc := 11) (tgt := 16) F dX7_isClock_11 (by decide) (fun c11 => ?_) (fun c11 => ?_)
    · refine g_iload_n (pc := 16) F dX7_isClock_16 rfl ?_
      refine g_iconst (pc := 17) (v := 2) F dX7_isClock_17 (by decide) ?_
      refine g_icmp_ne (pc := 18) (tgt := 46) F dX7_isClock_18 (by decide) (fun c18 => ?_) (fun c18 => ?_)
      · refine g_iload_n (pc := 46) F dX7_isClock_46 rfl ?_
        refine g_iload_n (pc := 47) F dX7_isClock_47 rfl ?_
        refine g_callS (pc := 48) (rf2 := 1) (rl2 := 20) F cs_X7_219 (by rfl) (by rfl) (Nat.le_of_ble_eq_true (by rfl)) (by decide) dX7_isClock_48 (c_X7_mayFollow _ g _ _ _) (fun v M2 hz => ?_)
        obtain ⟨rfl, h2⟩ := hz
        rw [h2]
        refine g_if_eq (pc := 51) (tgt := 75) F dX7_isClock_51 (by decide) (fun c51 => ?_) (fun c51 => ?_)
        · refine g_iconst (pc := 75) (v := 0) F dX7_isClock_75 (by decide) ?_
          refine g_zret (pc := 76) F (by decide) r dX7_isClock_76 ?_
          exact ⟨congrArg (fun z => some (Value.int z)) (cb_f (fun e => cb_0 c51 (e.2.2.2 c18).1)).symm, rfl⟩
        · refine g_iload_n (pc := 54) F dX7_isClock_54 rfl ?_
          refine g_iload_n (pc := 55) F dX7_isClock_55 rfl ?_
          refine g_callS (pc := 56) (rf2 := 1) (rl2 := 20) F cs_X7_219 (by rfl) (by rfl) (Nat.le_of_ble_eq_true (by rfl)) (by decide) dX7_isClock_56 (c_X7_mayFollow _ g _ _ _) (fun v M2 hz => ?_)
          obtain ⟨rfl, h2⟩ := hz
          rw [h2]
          refine g_if_eq (pc := 59) (tgt := 75) F dX7_isClock_59 (by decide) (fun c59 => ?_) (fun c59 => ?_)
          · refine g_iconst (pc := 75) (v := 0) F dX7_isClock_75 (by decide) ?_
            refine g_zret (pc := 76) F (by decide) r dX7_isClock_76 ?_
            exact ⟨congrArg (fun z => some (Value.int z)) (cb_f (fun e => cb_0 c59 (e.2.2.2 c18).2.1)).symm, rfl⟩
          · refine g_iload_n (pc := 62) F dX7_isClock_62 rfl ?_
            refine g_iload (pc := 63) F dX7_isClock_63 rfl ?_
            refine g_callS (pc := 65) (rf2 := 1) (rl2 := 20) F cs_X7_219 (by rfl) (by rfl) (Nat.le_of_ble_eq_true (by rfl)) (by decide) dX7_isClock_65 (c_X7_mayFollow _ g _ _ _) (fun v M2 hz => ?_)
            obtain ⟨rfl, h2⟩ := hz
            rw [h2]
            refine g_if_eq (pc := 68) (tgt := 75) F dX7_isClock_68 (by decide) (fun c68 => ?_) (fun c68 => ?_)
            · refine g_iconst (pc := 75) (v := 0) F dX7_isClock_75 (by decide) ?_
              refine g_zret (pc := 76) F (by decide) r dX7_isClock_76 ?_
              exact ⟨congrArg (fun z => some (Value.int z)) (cb_f (fun e => cb_0 c68 (e.2.2.2 c18).2.2)).symm, rfl⟩
            · refine g_iconst (pc := 71) (v := 1) F dX7_isClock_71 (by decide) ?_
              refine g_goto (pc := 72) (tgt := 76) F dX7_isClock_72 (by decide) ?_
              refine g_zret (pc := 76) F (by decide) r dX7_isClock_76 ?_
              exact ⟨congrArg (fun z => some (Value.int z)) (cb_t ⟨cb_1 c4, cb_1 c11, fun e => absurd e c18, fun _ => ⟨cb_1 c51, cb_1 c59, cb_1 c68⟩⟩).symm, rfl⟩
      · refine g_iload_n (pc := 21) F dX7_isClock_21 rfl ?_
        refine g_callS (pc := 22) (rf2 := 0) (rl2 := 0) F cs_X7_216 (by rfl) (by rfl) (Nat.le_of_ble_eq_true (by rfl)) (by decide) dX7_isClock_22 (c_X7_isGap _ g _ _) (fun v M2 hz => ?_)
        obtain ⟨rfl, h2⟩ := hz
        rw [h2]
        refine g_if_eq (pc := 25) (tgt := 44) F dX7_isClock_25 (by decide) (fun c25 => ?_) (fun c25 => ?_)
        · refine g_iconst (pc := 44) (v := 0) F dX7_isClock_44 (by decide) ?_
          refine g_zret (pc := 45) F (by decide) r dX7_isClock_45 ?_
          exact ⟨congrArg (fun z => some (Value.int z)) (cb_f (fun e => cb_0 c25 (e.2.2.1 c18).1)).symm, rfl⟩
        · refine g_iload_n (pc := 28) F dX7_isClock_28 rfl ?_
          refine g_callS (pc := 29) (rf2 := 0) (rl2 := 0) F cs_X7_216 (by rfl) (by rfl) (Nat.le_of_ble_eq_true (by rfl)) (by decide) dX7_isClock_29 (c_X7_isGap _ g _ _) (fun v M2 hz => ?_)
          obtain ⟨rfl, h2⟩ := hz
          rw [h2]
          refine g_if_eq (pc := 32) (tgt := 44) F dX7_isClock_32 (by decide) (fun c32 => ?_) (fun c32 => ?_)
          · refine g_iconst (pc := 44) (v := 0) F dX7_isClock_44 (by decide) ?_
            refine g_zret (pc := 45) F (by decide) r dX7_isClock_45 ?_
            exact ⟨congrArg (fun z => some (Value.int z)) (cb_f (fun e => cb_0 c32 (e.2.2.1 c18).2.1)).symm, rfl⟩
          · refine g_iload (pc := 35) F dX7_isClock_35 rfl ?_
            refine g_if_ne (pc := 37) (tgt := 44) F dX7_isClock_37 (by decide) (fun c37 => ?_) (fun c37 => ?_)
            · refine g_iconst (pc := 44) (v := 0) F dX7_isClock_44 (by decide) ?_
              refine g_zret (pc := 45) F (by decide) r dX7_isClock_45 ?_
              exact ⟨congrArg (fun z => some (Value.int z)) (cb_f (fun e => c37 (e.2.2.1 c18).2.2)).symm, rfl⟩
            · refine g_iconst (pc := 40) (v := 1) F dX7_isClock_40 (by decide) ?_
              refine g_goto (pc := 41) (tgt := 45) F dX7_isClock_41 (by decide) ?_
              refine g_zret (pc := 45) F (by decide) r dX7_isClock_45 ?_
              exact ⟨congrArg (fun z => some (Value.int z)) (cb_t ⟨cb_1 c4, cb_1 c11, fun _ => ⟨cb_1 c25, cb_1 c32, c37⟩, fun e => absurd c18 e⟩).symm, rfl⟩
    · refine g_iconst (pc := 14) (v := 0) F dX7_isClock_14 (by decide) ?_
      refine g_zret (pc := 15) F (by decide) r dX7_isClock_15 ?_
      exact ⟨congrArg (fun z => some (Value.int z)) (cb_f (fun e => cb_0 c11 e.2.1)).symm, rfl⟩

set_option maxHeartbeats 4000000 in
set_option maxRecDepth 100000 in
theorem c_X3_windClock (l : Launch) (g : Gm) (M : Mem) (h : Nat) (hk : kd h = 3) (S : SV) (t : Nat) (hr : HR M h S) (hi : Inv S t) (x : Int32) : Cn l yX3_windClock cX3_windClock 3 (some .int) 2 42 g [.ref (ad g h), .int x] M (fun v M2 => v = some (.int (oWind S x).1) ∧ HR M2 h (oWind S x).2 ∧ frH M M2 h) := by
  refine Cn.intro (lv0 := [some (.ref (ad g h)), some (.int x), none]) 1 (by decide +kernel) (Nat.le_of_ble_eq_true rfl) rfl (fun X F r => ?_)
  obtain ⟨hk1, hk2, hkC, hkG⟩ := kd_hall hk
  have hn := hi.cn_le
  have hm := hi.gn_le
  refine g_aload_n (pc := 0) F dX3_windClock_0 rfl ?_
  refine g_iload_n (pc := 1) F dX3_windClock_1 rfl ?_
  refine g_callV (pc := 2) (rf2 := 0) (rl2 := 0) F cs_X3_58 (by assumption) rfl (by decide) (by rfl) (by rfl) (Nat.le_of_ble_eq_true (by rfl)) (by decide) dX3_windClock_2 (c_X3_clockAt _ g _ h hk (cn S) hn.1 (hr.1.trans hn.2) x) (fun v M2 hz => ?_)
  obtain ⟨h2, hz⟩ := hz
  rw [h2]
  rcases hz with ⟨i, hi6, hx, rfl⟩ | ⟨hno, rfl⟩
  · refine g_astore_n (pc := 5) F dX3_windClock_5 (by decide) rfl ?_
    refine g_aload_n (pc := 6) F dX3_windClock_6 rfl ?_
    refine g_ifnonnull (pc := 7) (tgt := 13) F dX3_windClock_7 (by decide) ?_
    refine g_aload_n (pc := 13) F dX3_windClock_13 rfl ?_
    refine g_aload_n (pc := 14) F dX3_windClock_14 rfl ?_
    obtain ⟨la, a, b, cc, d, p, gp, ag, sm, sq, hLI, hp5, hpN, -⟩ := hi.2.2.2.2.2.1 i hi6
    obtain ⟨xx, hxx, hx3⟩ := hi.2.2.2.2.1
    refine g_callV (pc := 15) (rf2 := 1) (rl2 := 21) F cs_X3_55 (by assumption) rfl (by decide) (by rfl) (by rfl) (Nat.le_of_ble_eq_true (by rfl)) (by decide) dX3_windClock_15 (c_X3_beginGap _ g _ h (h + 3 + 4 * i) hk (hkC i (by omega)) (by omega) _ (hr.2.2.2.2.1 i hi6) hLI hxx (hr.2.2.2.1.trans hx3) (by rw [hp5, nI_1]) (by omega)) (fun v M2 hz => ?_)
    obtain ⟨rfl, q1, q2, q3⟩ := hz
    have hkc := hkC i (by omega)
    have hB : HR M2 h (beg S i (cw S i 5 + 1)) := by
      rw [hr.2.2.2.1] at q1 q2
      exact HR_clock hr hn.1 hm.1 (by omega) q1 (fun y y1 y2 y3 y4 => q3 y y3 (by omega)) q2
    have hcb : cn (beg S i (cw S i 5 + 1)) = cn S := cn_beg _ _ _
    have hgb := gn_beg S i (cw S i 5 + 1)
    refine g_aload_n (pc := 18) F dX3_windClock_18 rfl ?_
    refine g_dup (pc := 19) F dX3_windClock_19 rfl ?_
    refine g_geti (pc := 20) F fl_X3_62 (by assumption) rfl dX3_windClock_20 ?_
    refine g_iconst (pc := 23) (v := 1) F dX3_windClock_23 (by decide) ?_
    refine g_iadd (pc := 24) F dX3_windClock_24 ?_
    refine g_puti (pc := 25) F fl_X3_62 rfl rfl (by assumption) rfl dX3_windClock_25 ?_
    refine g_aload_n (pc := 28) F dX3_windClock_28 rfl ?_
    refine g_geti (pc := 29) F fl_X3_65 (by assumption) rfl dX3_windClock_29 ?_
    refine g_iret (pc := 32) F r dX3_windClock_32 ?_
    subst hx
    have e : oWind S (nI i) = (cw (wnd S i) i 6, wnd S i) := by
      unfold oWind
      rw [if_pos (inC_of hi hi6), ixN_nI (by omega)]
    rw [e]
    have hW := CRr_wound (hB.2.2.2.2.1 i (by omega))
    have hR : HR (upd2 M2 (h + 3 + 4 * i) 7 (M2 (h + 3 + 4 * i) 7 + 1)) h (wnd S i) := by
      unfold wnd
      refine HR_clk hB (by omega) (by omega) (by omega) (fun y y1 y2 y3 => upd2_k _ _ _ (by omega)) ?_
      show CRr _ _ _ _ _
      rw [upd2_row, upd2_k _ _ _ (by omega), upd2_k _ _ _ (by omega), upd2_k _ _ _ (by omega)]
      exact hW
    refine ⟨?_, hR, fun y hy => (upd2_k _ _ _ (by omega)).trans (q3 y (by omega) (by omega))⟩
    have h6 := (hR.2.2.2.2.1 i (by
      unfold wnd cn
      rw [setC_lo _ _ _ (by decide)]
      have := hcb
      unfold cn at this
      rw [this]
      exact hi6)).2.2.2.1
    rw [h6]
  · refine g_astore_nN (pc := 5) F dX3_windClock_5 (by decide) rfl ?_
    refine g_aload_nN (pc := 6) F dX3_windClock_6 rfl ?_
    refine g_ifnonnullN (pc := 7) F dX3_windClock_7 ?_
    refine g_ldc (pc := 10) F wk_X3_49 dX3_windClock_10 ?_
    refine g_iret (pc := 12) F r dX3_windClock_12 ?_
    have e : oWind S x = (-1000001, S) := if_neg (inC_not hi hno)
    rw [e]
    exact ⟨rfl, hr, frH.refl _ _⟩

set_option maxHeartbeats 4000000 in
set_option maxRecDepth 100000 in
theorem c_X3_addPassenger (l : Launch) (g : Gm) (M : Mem) (h : Nat) (hk : kd h = 3) (S : SV) (t : Nat) (hr : HR M h S) (hi : Inv S t) (x : Int32) : Cn l yX3_addPassenger cX3_addPassenger 3 (some .int) 1 21 g [.ref (ad g h), .int x] M (fun v M2 => v = some (.int (oPass S x).1) ∧ HR M2 h (oPass S x).2 ∧ frH M M2 h) := by
  refine Cn.intro (lv0 := [some (.ref (ad g h)), some (.int x), none]) 1 (by decide +kernel) (Nat.le_of_ble_eq_true rfl) rfl (fun X F r => ?_)
  obtain ⟨hk1, hk2, hkC, hkG⟩ := kd_hall hk
  have hn := hi.cn_le
  have hm := hi.gn_le
  refine g_aload_n (pc := 0) F dX3_addPassenger_0 rfl ?_
  refine g_iload_n (pc := 1) F dX3_addPassenger_1 rfl ?_
  refine g_callV (pc := 2) (rf2 := 0) (rl2 := 0) F cs_X3_58 (by assumption) rfl (by decide) (by rfl) (by rfl) (Nat.le_of_ble_eq_true (by rfl)) (by decide) dX3_addPassenger_2 (c_X3_clockAt _ g _ h hk (cn S) hn.1 (hr.1.trans hn.2) x) (fun v M2 hz => ?_)
  obtain ⟨h2, hz⟩ := hz
  rw [h2]
  rcases hz with ⟨i, hi6, hx, rfl⟩ | ⟨hno, rfl⟩
  · refine g_astore_n (pc := 5) F dX3_addPassenger_5 (by decide) rfl ?_
    refine g_aload_n (pc := 6) F dX3_addPassenger_6 rfl ?_
    refine g_ifnonnull (pc := 7) (tgt := 13) F dX3_addPassenger_7 (by decide) ?_
    have hkc := hkC i (by omega)
    refine g_aload_n (pc := 13) F dX3_addPassenger_13 rfl ?_
    refine g_dup (pc := 14) F dX3_addPassenger_14 rfl ?_
    refine g_geti (pc := 15) F fl_X3_107 (by assumption) rfl dX3_addPassenger_15 ?_
    refine g_iconst (pc := 18) (v := 1) F dX3_addPassenger_18 (by decide) ?_
    refine g_iadd (pc := 19) F dX3_addPassenger_19 ?_
    refine g_puti (pc := 20) F fl_X3_107 rfl rfl (by assumption) rfl dX3_addPassenger_20 ?_
    refine g_aload_n (pc := 23) F dX3_addPassenger_23 rfl ?_
    refine g_dup (pc := 24) F dX3_addPassenger_24 rfl ?_
    refine g_geti (pc := 25) F fl_X3_110 (by assumption) rfl dX3_addPassenger_25 ?_
    refine g_aload_n (pc := 28) F dX3_addPassenger_28 rfl ?_
    refine g_geti (pc := 29) F fl_X3_113 (by assumption) rfl dX3_addPassenger_29 ?_
    refine g_iadd (pc := 32) F dX3_addPassenger_32 ?_
    refine g_puti (pc := 33) F fl_X3_110 rfl rfl (by assumption) rfl dX3_addPassenger_33 ?_
    refine g_aload_n (pc := 36) F dX3_addPassenger_36 rfl ?_
    refine g_geti (pc := 37) F fl_X3_113 (by assumption) rfl dX3_addPassenger_37 ?_
    refine g_iret (pc := 40) F r dX3_addPassenger_40 ?_
    subst hx
    have e : oPass S (nI i) = (cw S i 6 - cw S i 7, pasC S i) := by
      unfold oPass
      rw [if_pos (inC_of hi hi6), ixN_nI (by omega)]
    rw [e]
    have hC := hr.2.2.2.2.1 i hi6
    simp only [upd2_updr, updr_upd2, updr_self, updr_updr]
    refine ⟨?_, ?_, fun y hy => updr_ne _ _ (by omega)⟩
    · rw [upd_ne _ _ (by decide), upd_ne _ _ (by decide), hC.2.2.2.2.1]
    · unfold pasC
      refine HR_clk hr hn.1 hm.1 (by omega) (fun y y1 y2 y3 => updr_ne _ _ (by omega)) ?_
      show CRr _ _ _ _ _
      rw [updr_self, updr_ne _ _ (by omega), updr_ne _ _ (by omega), updr_ne _ _ (by omega)]
      exact CRr_pass hC
  · refine g_astore_nN (pc := 5) F dX3_addPassenger_5 (by decide) rfl ?_
    refine g_aload_nN (pc := 6) F dX3_addPassenger_6 rfl ?_
    refine g_ifnonnullN (pc := 7) F dX3_addPassenger_7 ?_
    refine g_ldc (pc := 10) F wk_X3_49 dX3_addPassenger_10 ?_
    refine g_iret (pc := 12) F r dX3_addPassenger_12 ?_
    have e : oPass S x = (-1000001, S) := if_neg (inC_not hi hno)
    rw [e]
    exact ⟨rfl, hr, frH.refl _ _⟩

theorem endsN_inv {S : SV} {t : Nat} (hi : Inv S t) : ∀ k, t + k ≤ 100200 → Inv (endsN S k).2 (t + k) := by
  intro k
  induction k with
  | zero => intro _; exact hi
  | succ k ih => intro hk; exact Inv_ends (ih (by omega)) (by omega)
theorem ticksP_nI {k : Int32} (h : ticksP k) : ∃ n, 1 ≤ n ∧ n ≤ 200 ∧ k = nI n := by
  have h0 : ¬ k < 0 := fun e => by
    have a1 := Int32.lt_iff_toInt_lt.mp e
    have a2 := Int32.le_iff_toInt_le.mp h.1
    have e0 : (0 : Int32).toInt = 0 := rfl
    have e1 : (1 : Int32).toInt = 1 := rfl
    omega
  obtain ⟨n, hn, rfl⟩ := nI_of2 (M := 200) (n := 200) rfl h0 h.2
  refine ⟨n, ?_, hn, rfl⟩
  have := h.1
  rw [nI1, nI_leI (by decide) (by omega)] at this
  exact this
set_option maxHeartbeats 4000000 in
set_option maxRecDepth 100000 in
theorem c_X3_endTicks (l : Launch) (g : Gm) (M : Mem) (h : Nat) (hk : kd h = 3) (S : SV) (t : Nat) (hr : HR M h S) (hi : Inv S t) (k : Int32) : Cn l yX3_endTicks cX3_endTicks 4 (some .int) 3 64 g [.ref (ad g h), .int k] M (fun v M2 => v = some (.int (oTick S k).1) ∧ HR M2 h (oTick S k).2 ∧ frH M M2 h) := by
  refine Cn.intro (lv0 := [some (.ref (ad g h)), some (.int k), none, none]) 2 (by decide +kernel) (Nat.le_of_ble_eq_true rfl) rfl (fun X F r => ?_)
  obtain ⟨hk1, hk2, hkC, hkG⟩ := kd_hall hk
  have hn := hi.cn_le
  have hm := hi.gn_le
  have hS2 := hr.2.2.1.trans hi.2.2.1
  refine g_iload_n (pc := 0) F dX3_endTicks_0 rfl ?_
  refine g_iconst (pc := 1) (v := 1) F dX3_endTicks_1 (by decide) ?_
  refine g_icmp_lt (pc := 2) (tgt := 12) F dX3_endTicks_2 (by decide) (fun c2 => ?_) (fun c2 => ?_)
  · refine g_ldc (pc := 12) F wk_X3_49 dX3_endTicks_12 ?_
    refine g_iret (pc := 14) F r dX3_endTicks_14 ?_
    have eO : oTick S k = (-1000001, S) := by
      unfold oTick
      exact if_neg (fun e => Int32.not_lt.mpr e.1 c2)
    rw [eO]
    exact ⟨rfl, hr, frH.refl _ _⟩
  · skip
    refine g_iload_n (pc := 5) F dX3_endTicks_5 rfl ?_
    refine g_sipush (pc := 6) (v := 200) F dX3_endTicks_6 (by decide) ?_
    refine g_icmp_le (pc := 9) (tgt := 15) F dX3_endTicks_9 (by decide) (fun c9 => ?_) (fun c9 => ?_)
    · obtain ⟨kn, k1, k2, hkn⟩ := ticksP_nI (k := k) ⟨Int32.not_lt.mp c2, c9⟩
      refine g_aload_n (pc := 15) F dX3_endTicks_15 rfl ?_
      refine g_geti (pc := 16) F fl_X3_42 (by assumption) rfl dX3_endTicks_16 ?_
      refine g_iload_n (pc := 19) F dX3_endTicks_19 rfl ?_
      refine g_iadd (pc := 20) F dX3_endTicks_20 ?_
      refine g_ldc (pc := 21) F wk_X3_92 dX3_endTicks_21 ?_
      refine g_icmp_le (pc := 23) (tgt := 29) F dX3_endTicks_23 (by decide) (fun c23 => ?_) (fun c23 => ?_)
      · rw [hr.2.2.1] at c23
        have ht1 : t + kn ≤ 99999 := by
          rw [hi.2.2.1, hkn, nI_add] at c23
          exact (nI_leI (b := 99999) (by have := hi.2.2.2.1; omega) (by decide)).mp c23
        have eO : oTick S k = endsN S kn := by
          unfold oTick
          rw [if_pos ⟨Int32.not_lt.mp c2, c9⟩, if_pos c23, hkn, ixN_nI (by omega)]
        rw [eO] at r
        have L : ∀ (n i : Nat) (x : Int32) (M1 : Mem), i + n = kn → x = nI i → HR M1 h (endsN S i).2 → frH M M1 h → G X g 4 M1 33 [some (.ref (ad g h)), some (.int k), some (.int (endsN S i).1), some (.int x)] [] := by
          intro n
          induction n with
          | zero =>
            intro i x M1 hin hx hr1 hf1
            obtain rfl : i = kn := by omega
            refine g_iload_n (pc := 33) F dX3_endTicks_33 rfl ?_
            refine g_iload_n (pc := 34) F dX3_endTicks_34 rfl ?_
            refine g_icmp_ge (pc := 35) (tgt := 51) F dX3_endTicks_35 (by decide) (fun c35 => ?_) (fun c35 => ?_)
            · refine g_iload_n (pc := 51) F dX3_endTicks_51 rfl ?_
              refine g_iret (pc := 52) F r dX3_endTicks_52 ?_
              exact ⟨rfl, hr1, hf1⟩
            · exact absurd (by rw [hx, hkn]; exact nI_le (by omega) (by omega)) c35
          | succ n ih =>
            intro i x M1 hin hx hr1 hf1
            refine g_iload_n (pc := 33) F dX3_endTicks_33 rfl ?_
            refine g_iload_n (pc := 34) F dX3_endTicks_34 rfl ?_
            refine g_icmp_ge (pc := 35) (tgt := 51) F dX3_endTicks_35 (by decide) (fun c35 => ?_) (fun c35 => ?_)
            · exact absurd c35 (by rw [hx, hkn]; exact nI_ge (by omega) (by omega))
            · refine g_iload_n (pc := 38) F dX3_endTicks_38 rfl ?_
              refine g_aload_n (pc := 39) F dX3_endTicks_39 rfl ?_
              refine g_callV (pc := 40) (rf2 := 2) (rl2 := 42) F cs_X3_93 (by assumption) rfl (by decide) (by rfl) (by rfl) (Nat.le_of_ble_eq_true (by rfl)) (by decide) dX3_endTicks_40 (c_X3_endTick _ g _ h hk _ _ hr1 (endsN_inv hi i (by omega))) (fun v M2 hz => ?_)
              obtain ⟨rfl, q1, q2⟩ := hz
              refine g_iadd (pc := 43) F dX3_endTicks_43 ?_
              refine g_istore_n (pc := 44) F dX3_endTicks_44 (by decide) rfl ?_
              refine g_iinc (pc := 45) F dX3_endTicks_45 rfl rfl (by decide) rfl ?_
              refine g_goto (pc := 48) (tgt := 33) F dX3_endTicks_48 (by decide) ?_
              exact G.sub [some (.ref (ad g h)), some (.int k), some (.int (endsN S (i + 1)).1), some (.int (x + Int32.ofInt 1))] ⟨rfl, rfl, rfl, rfl, trivial⟩ (ih (i + 1) _ _ (by omega) (by rw [hx]; exact nI_1 i) q1 (hf1.trans q2))
        refine g_iconst (pc := 29) (v := 0) F dX3_endTicks_29 (by decide) ?_
        refine g_istore_n (pc := 30) F dX3_endTicks_30 (by decide) rfl ?_
        refine g_iconst (pc := 31) (v := 0) F dX3_endTicks_31 (by decide) ?_
        refine g_istore_n (pc := 32) F dX3_endTicks_32 (by decide) rfl ?_
        exact L kn 0 _ _ (by omega) nI_0.symm hr (frH.refl _ _)
      · rw [hr.2.2.1] at c23
        refine g_ldc (pc := 26) F wk_X3_50 dX3_endTicks_26 ?_
        refine g_iret (pc := 28) F r dX3_endTicks_28 ?_
        have eO : oTick S k = (-1000003, S) := by
          unfold oTick
          rw [if_pos ⟨Int32.not_lt.mp c2, c9⟩, if_neg c23]
        rw [eO]
        exact ⟨rfl, hr, frH.refl _ _⟩
    · refine g_ldc (pc := 12) F wk_X3_49 dX3_endTicks_12 ?_
      refine g_iret (pc := 14) F r dX3_endTicks_14 ?_
      have eO : oTick S k = (-1000001, S) := by
        unfold oTick
        exact if_neg (fun e => c9 e.2)
      rw [eO]
      exact ⟨rfl, hr, frH.refl _ _⟩
end
section
theorem NP_burst {la b c d p : Nat} (hl : ¬ la = 2) (hp : p < NP la b c d) : p < 4 := by
  unfold NP at hp
  rw [if_neg hl] at hp
  by_cases hb : 0 < b <;> by_cases hc : 0 < c <;> by_cases hd : 0 < d <;> simp [hb, hc, hd] at hp <;> omega
/-- beginning a gap reads the law and its numbers alone -/
theorem bw_congr {u v : Nat → Int32} {la a b c d x q : Nat} (hL : LI u la a b c d) (hx : x < 10000) (hq : q < 2147483648) (e : ∀ j, j < 15 → j ≠ 5 → u j = v j) : (∀ j, j < 15 → bw u (nI x) (nI q) j = bw v (nI x) (nI q) j) ∧ bx u (nI x) = bx v (nI x) := by
  obtain ⟨p, hp, hpe⟩ := bplace_nI hL hx hq
  have hl2 := LI_law2 hL
  have hP := (NP_bound (la := la) (b := b) (c := c) (d := d) (hL.2.2.2.2.2.2.2.2.1)).2
  have hpl : places v = places u := by
    unfold places
    rw [e 0 (by decide) (by decide), e 1 (by decide) (by decide), e 2 (by decide) (by decide), e 3 (by decide) (by decide), e 4 (by decide) (by decide)]
  have hbp : bplace v (nI x) (nI q) = nI p := by
    rw [← hpe]
    unfold bplace
    rw [hpl, e 0 (by decide) (by decide)]
  have hg : gapAt u (nI p) = gapAt v (nI p) := by
    unfold gapAt
    rw [← e 0 (by decide) (by decide), ← e 1 (by decide) (by decide), ← e 2 (by decide) (by decide), ← e 3 (by decide) (by decide)]
    by_cases hl : u 0 = 2
    · rw [if_pos hl, if_pos hl]
    · rw [if_neg hl, if_neg hl]
      have h4 := NP_burst (fun z => hl (hl2.mpr z)) hp
      rw [nI_clamp (by omega)]
      exact e _ (by omega) (by omega)
  refine ⟨fun j hj => ?_, ?_⟩
  · unfold bw
    rw [hpe, hbp, hg]
    by_cases h7 : j = 7
    · subst h7; rw [upd_self, upd_self]
    · rw [upd_ne _ _ h7, upd_ne _ _ h7]
      by_cases h6 : j = 6
      · subst h6; rw [upd_self, upd_self]
      · rw [upd_ne _ _ h6, upd_ne _ _ h6]
        by_cases h5 : j = 5
        · subst h5; rw [upd_self, upd_self]
        · rw [upd_ne _ _ h5, upd_ne _ _ h5]
          exact e j hj h5
  · unfold bx
    rw [e 0 (by decide) (by decide)]
theorem addC_lo (S : SV) (la a b c d : Int32) {k : Nat} (hk : k < 3) : addC S la a b c d k = if k = 0 then S 0 + 1 else S k := by
  unfold addC beg
  rw [upd_ne _ _ (by omega), setC_lo _ _ _ (by omega), upd_get]
  by_cases h0 : k = 0
  · rw [if_pos h0, if_pos h0]
  · rw [if_neg h0, if_neg h0, setC_lo _ _ _ (by omega)]
/-- the clock that came, and the others -/
theorem addC_cw {S : SV} {la a b c d : Int32} {x l' a' b' c' d' : Nat} (hL : LI (w0 la a b c d (-1)) l' a' b' c' d') (hx3 : S 3 = nI x) (hx : x < 10000) : (∀ j, j < 15 → cw (addC S la a b c d) (cn S) j = bw (w0 la a b c d (-1)) (S 3) (w0 la a b c d (-1) 5 + 1) j) ∧ addC S la a b c d 3 = bx (w0 la a b c d (-1)) (S 3) ∧ (∀ i, i ≠ cn S → ∀ j, j < 15 → cw (addC S la a b c d) i j = cw S i j) ∧ (cn S < 6 → ∀ k j, gw (addC S la a b c d) k j = gw S k j) := by
  have e51 : w0 la a b c d (-1) 5 + 1 = nI 0 := by
    show (-1 : Int32) + 1 = nI 0
    decide
  have hcw : ∀ j, j < 15 → j ≠ 5 → w0 la a b c d (-1) j = cw (upd (setC S (cn S) (w0 la a b c d 0)) 0 (S 0 + 1)) (cn S) j := by
    intro j hj h5
    rw [cw_upd_lo _ _ _ (by decide), cw_setC _ _ _ hj]
    unfold w0
    simp [h5]
  obtain ⟨k1, k2⟩ := bw_congr (q := 0) hL hx (by decide) hcw
  rw [e51, hx3]
  have h3' : upd (setC S (cn S) (w0 la a b c d 0)) 0 (S 0 + 1) 3 = nI x := by rw [upd_ne _ _ (by decide), setC_lo _ _ _ (by decide), hx3]
  refine ⟨fun j hj => ?_, ?_, fun i hi j hj => ?_, fun hn k j => ?_⟩
  · unfold addC beg
    rw [cw_upd_lo _ _ _ (by decide), cw_setC _ _ _ hj, h3', k1 j hj]
    rfl
  · unfold addC beg
    rw [upd_self, h3', k2]
  · unfold addC beg
    rw [cw_upd_lo _ _ _ (by decide), cw_setC_ne _ _ hj hi, cw_upd_lo _ _ _ (by decide), cw_setC_ne _ _ hj hi]
  · unfold addC beg
    rw [gw_upd_lo _ _ _ (by decide), gw_setC _ _ hn, gw_upd_lo _ _ _ (by decide), gw_setC _ _ hn]
/-- a clock comes: its rows are set and begun, and the hall counts one more -/
theorem HR_addC {M M2 M3 : Mem} {h : Nat} {S : SV} {t : Nat} {la a b c d : Int32} {x l' a' b' c' d' : Nat} (hr : HR M h S) (hi : Inv S t) (hn : cn S < 6) (hx3 : S 3 = nI x) (hx : x < 10000) (hL : LI (w0 la a b c d (-1)) l' a' b' c' d')
    (e1 : M2 = csetM M (h + 3 + 4 * cn S) la a b c d) (q1 : M3 h = upd (M2 h) 5 (bx (w0 la a b c d (-1)) (M2 h 5))) (q2 : CR M3 (h + 3 + 4 * cn S) (bw (w0 la a b c d (-1)) (M2 h 5) (w0 la a b c d (-1) 5 + 1))) (q3 : ∀ y, y ≠ h → y ≠ h + 3 + 4 * cn S → M3 y = M2 y) :
    HR (upd2 M3 h 1 (M3 h 1 + 1)) h (addC S la a b c d) ∧ frH M (upd2 M3 h 1 (M3 h 1 + 1)) h := by
  have hm := hi.gn_le
  have hn6 := hi.cn_le
  have o1 : ∀ y, (y < h + 3 + 4 * cn S ∨ h + 7 + 4 * cn S ≤ y) → M2 y = M y := by
    intro y hy
    rw [e1]
    unfold csetM
    rw [updr_ne _ _ (by omega), updr_ne _ _ (by omega), updr_ne _ _ (by omega), updr_ne _ _ (by omega)]
  have hh : M2 h = M h := o1 h (by omega)
  rw [hh] at q1 q2
  obtain ⟨k1, k2, k3, k4⟩ := addC_cw (S := S) hL hx3 hx
  have ec : cn (addC S la a b c d) = cn S + 1 := by
    refine cn_of ?_ (by omega)
    rw [addC_lo _ _ _ _ _ _ (by decide), if_pos rfl, hn6.2, nI_1]
  have eg : gn (addC S la a b c d) = gn S := by unfold gn; rw [addC_lo _ _ _ _ _ _ (by decide), if_neg (by decide)]
  have r5 : M h 5 = S 3 := hr.2.2.2.1
  refine ⟨⟨?_, ?_, ?_, ?_, ?_, ?_⟩, fun y hy => ?_⟩
  · rw [upd2_self, q1, upd_ne _ _ (by decide), hr.1, addC_lo _ _ _ _ _ _ (by decide), if_pos rfl]
  · rw [upd2_j _ _ _ (by decide), q1, upd_ne _ _ (by decide), hr.2.1, addC_lo _ _ _ _ _ _ (by decide), if_neg (by decide)]
  · rw [upd2_j _ _ _ (by decide), q1, upd_ne _ _ (by decide), hr.2.2.1, addC_lo _ _ _ _ _ _ (by decide), if_neg (by decide)]
  · rw [upd2_j _ _ _ (by decide), q1, upd_self, k2, r5]
  · rw [ec]
    intro i hi'
    show CRr _ _ _ _ _
    rw [upd2_k _ _ _ (by omega), upd2_k _ _ _ (by omega), upd2_k _ _ _ (by omega), upd2_k _ _ _ (by omega)]
    by_cases hin : i = cn S
    · subst hin
      rw [r5] at q2
      exact CRr_congr q2 k1
    · rw [q3 _ (by omega) (by omega), q3 _ (by omega) (by omega), q3 _ (by omega) (by omega), q3 _ (by omega) (by omega), o1 _ (by omega), o1 _ (by omega), o1 _ (by omega), o1 _ (by omega)]
      exact CRr_congr (hr.2.2.2.2.1 i (by omega)) (k3 i hin)
  · rw [eg]
    intro i hi' j hj
    rw [upd2_k _ _ _ (by omega), q3 _ (by omega) (by omega), o1 _ (by omega), k4 hn]
    exact hr.2.2.2.2.2 i hi' j hj
  · rw [upd2_k _ _ _ (by omega), q3 _ (by omega) (by omega), o1 _ (by omega)]
set_option maxHeartbeats 4000000 in
set_option maxRecDepth 100000 in
theorem c_X3_addClock (l : Launch) (g : Gm) (M : Mem) (h : Nat) (hk : kd h = 3) (S : SV) (t : Nat) (hr : HR M h S) (hi : Inv S t) (la a b c d : Int32) : Cn l yX3_addClock cX3_addClock 7 (some .int) 3 68 g [.ref (ad g h), .int la, .int a, .int b, .int c, .int d] M (fun v M2 => v = some (.int (oClock S la a b c d).1) ∧ HR M2 h (oClock S la a b c d).2 ∧ frH M M2 h) := by
  refine Cn.intro (lv0 := [some (.ref (ad g h)), some (.int la), some (.int a), some (.int b), some (.int c), some (.int d), none]) 1 (by decide +kernel) (Nat.le_of_ble_eq_true rfl) rfl (fun X F r => ?_)
  obtain ⟨hk1, hk2, hkC, hkG⟩ := kd_hall hk
  have hn := hi.cn_le
  have hm := hi.gn_le
  refine g_iload_n (pc := 0) F dX3_addClock_0 rfl ?_
  refine g_iload_n (pc := 1) F dX3_addClock_1 rfl ?_
  refine g_iload_n (pc := 2) F dX3_addClock_2 rfl ?_
  refine g_iload (pc := 3) F dX3_addClock_3 rfl ?_
  refine g_iload (pc := 5) F dX3_addClock_5 rfl ?_
  refine g_callSN (pc := 7) (rf2 := 2) (rl2 := 41) F cs_X3_45 (by rfl) (by rfl) (Nat.le_of_ble_eq_true (by rfl)) (by decide) dX3_addClock_7 (c_X7_isClock _ g _ la a b c d) (fun v M2 hz => ?_)
  obtain ⟨rfl, h2⟩ := hz
  rw [h2]
  refine g_if_ne (pc := 10) (tgt := 16) F dX3_addClock_10 (by decide) (fun c10 => ?_) (fun c10 => ?_)
  · have hcP := cb_1 c10
    refine g_aload_n (pc := 16) F dX3_addClock_16 rfl ?_
    refine g_geti (pc := 17) F fl_X3_29 (by assumption) rfl dX3_addClock_17 ?_
    refine g_aload_n (pc := 20) F dX3_addClock_20 rfl ?_
    refine g_getr (pc := 21) F fl_X3_11 (by assumption) rfl dX3_addClock_21 ?_
    refine g_alenK (pc := 24) F (by assumption) (v := 6) (by decide) dX3_addClock_24 ?_
    refine g_icmp_lt (pc := 25) (tgt := 31) F dX3_addClock_25 (by decide) (fun c25 => ?_) (fun c25 => ?_)
    · rw [hr.1, hn.2] at c25
      have hn6 : cn S < 6 := (nI_ltI (b := 6) (by omega) (by decide)).mp c25
      have hk3 := hkC (cn S) hn6
      obtain ⟨l', a', b', c', d', hLI⟩ := clockP_LI (p := -1) hcP
      obtain ⟨xx, hxx, hx3⟩ := hi.2.2.2.2.1
      have eO : oClock S la a b c d = (S 0, addC S la a b c d) := by
        unfold oClock
        rw [if_pos hcP, if_neg (fun e => by rw [hn.2, show (6 : Int32) = nI 6 by decide, nI_inj (by omega) (by decide)] at e; omega)]
      rw [eO] at r
      refine g_aload_n (pc := 31) F dX3_addClock_31 rfl ?_
      refine g_getr (pc := 32) F fl_X3_11 (by assumption) rfl dX3_addClock_32 ?_
      refine g_aload_n (pc := 35) F dX3_addClock_35 rfl ?_
      refine g_geti (pc := 36) F fl_X3_29 (by assumption) rfl dX3_addClock_36 ?_
      refine g_aaldK (pc := 39) (q := cn S) (r := h + 3 + 4 * cn S) F hk1 (hr.1.trans hn.2) hn6 (by omega) dX3_addClock_39 ?_
      refine g_astore (pc := 40) F dX3_addClock_40 (by decide) rfl ?_
      refine g_aload (pc := 42) F dX3_addClock_42 rfl ?_
      refine g_iload_n (pc := 44) F dX3_addClock_44 rfl ?_
      refine g_iload_n (pc := 45) F dX3_addClock_45 rfl ?_
      refine g_iload_n (pc := 46) F dX3_addClock_46 rfl ?_
      refine g_iload (pc := 47) F dX3_addClock_47 rfl ?_
      refine g_iload (pc := 49) F dX3_addClock_49 rfl ?_
      refine g_callV (pc := 51) (rf2 := 2) (rl2 := 43) F cs_X3_51 (by assumption) rfl (by decide) (by rfl) (by rfl) (Nat.le_of_ble_eq_true (by rfl)) (by decide) dX3_addClock_51 (c_X0_set _ g _ (h + 3 + 4 * cn S) hk3 la a b c d) (fun v M2 hz => ?_)
      obtain ⟨rfl, e1⟩ := hz
      refine g_aload_n (pc := 54) F dX3_addClock_54 rfl ?_
      refine g_aload (pc := 55) F dX3_addClock_55 rfl ?_
      have hh5 : M2 h 5 = nI xx := by
        rw [e1]
        unfold csetM
        rw [updr_ne _ _ (by omega), updr_ne _ _ (by omega), updr_ne _ _ (by omega), updr_ne _ _ (by omega), hr.2.2.2.1, hx3]
      refine g_callV (pc := 57) (rf2 := 1) (rl2 := 21) F cs_X3_55 (by assumption) rfl (by decide) (by rfl) (by rfl) (Nat.le_of_ble_eq_true (by rfl)) (by decide) dX3_addClock_57 (c_X3_beginGap _ g _ h (h + 3 + 4 * cn S) hk hk3 (by omega) _ (by rw [e1]; exact CR_set M (h + 3 + 4 * cn S) la a b c d) hLI hxx hh5 (show w0 la a b c d (-1) 5 + 1 = nI 0 by show (-1 : Int32) + 1 = nI 0; decide) (Nat.zero_le _)) (fun v M3 hz => ?_)
      obtain ⟨rfl, q1, q2, q3⟩ := hz
      refine g_aload_n (pc := 60) F dX3_addClock_60 rfl ?_
      refine g_dup (pc := 61) F dX3_addClock_61 rfl ?_
      refine g_geti (pc := 62) F fl_X3_29 (by assumption) rfl dX3_addClock_62 ?_
      refine g_iconst (pc := 65) (v := 1) F dX3_addClock_65 (by decide) ?_
      refine g_iadd (pc := 66) F dX3_addClock_66 ?_
      refine g_puti (pc := 67) F fl_X3_29 rfl rfl (by assumption) rfl dX3_addClock_67 ?_
      refine g_aload_n (pc := 70) F dX3_addClock_70 rfl ?_
      refine g_geti (pc := 71) F fl_X3_29 (by assumption) rfl dX3_addClock_71 ?_
      refine g_iconst (pc := 74) (v := 1) F dX3_addClock_74 (by decide) ?_
      refine g_isub (pc := 75) F dX3_addClock_75 ?_
      refine g_iret (pc := 76) F r dX3_addClock_76 ?_
      obtain ⟨z1, z2⟩ := HR_addC hr hi hn6 hx3 hxx hLI e1 q1 q2 q3
      refine ⟨?_, z1, z2⟩
      rw [upd2_self]
      have hM1 : M3 h 1 = S 0 := by
        rw [q1, upd_ne _ _ (by decide), e1]
        unfold csetM
        rw [updr_ne _ _ (by omega), updr_ne _ _ (by omega), updr_ne _ _ (by omega), updr_ne _ _ (by omega), hr.1]
      rw [hM1, Int32.add_sub_cancel]
    · rw [hr.1, hn.2] at c25
      have eO : oClock S la a b c d = (-1000003, S) := by
        unfold oClock
        rw [if_pos hcP, if_pos (by
          have h6 : ¬ cn S < 6 := fun e => c25 ((nI_ltI (b := 6) (by omega) (by decide)).mpr e)
          rw [hn.2, show (6 : Int32) = nI 6 by decide, nI_inj (by omega) (by decide)]
          omega)]
      refine g_ldc (pc := 28) F wk_X3_50 dX3_addClock_28 ?_
      refine g_iret (pc := 30) F r dX3_addClock_30 ?_
      rw [eO]
      exact ⟨rfl, hr, frH.refl _ _⟩
  · have hcN := cb_0 c10
    refine g_ldc (pc := 13) F wk_X3_49 dX3_addClock_13 ?_
    refine g_iret (pc := 15) F r dX3_addClock_15 ?_
    have e : oClock S la a b c d = (-1000001, S) := if_neg hcN
    rw [e]
    exact ⟨rfl, hr, frH.refl _ _⟩

set_option maxHeartbeats 4000000 in
set_option maxRecDepth 100000 in
theorem c_X3_addGroup (l : Launch) (g : Gm) (M : Mem) (h : Nat) (hk : kd h = 3) (S : SV) (t : Nat) (hr : HR M h S) (hi : Inv S t) (la : Int32) : Cn l yX3_addGroup cX3_addGroup 2 (some .int) 1 21 g [.ref (ad g h), .int la] M (fun v M2 => v = some (.int (oGroup S la).1) ∧ HR M2 h (oGroup S la).2 ∧ frH M M2 h) := by
  refine Cn.intro (lv0 := [some (.ref (ad g h)), some (.int la)]) 0 (by decide +kernel) (Nat.le_of_ble_eq_true rfl) rfl (fun X F r => ?_)
  obtain ⟨hk1, hk2, hkC, hkG⟩ := kd_hall hk
  have hn := hi.cn_le
  have hm := hi.gn_le
  refine g_iload_n (pc := 0) F dX3_addGroup_0 rfl ?_
  refine g_callSN (pc := 1) (rf2 := 0) (rl2 := 0) F cs_X3_116 (by rfl) (by rfl) (Nat.le_of_ble_eq_true (by rfl)) (by decide) dX3_addGroup_1 (c_X7_isLaw _ g _ la) (fun v M2 hz => ?_)
  obtain ⟨rfl, h2⟩ := hz
  rw [h2]
  refine g_if_ne (pc := 4) (tgt := 10) F dX3_addGroup_4 (by decide) (fun c4 => ?_) (fun c4 => ?_)
  · have hcP := cb_1 c4
    refine g_aload_n (pc := 10) F dX3_addGroup_10 rfl ?_
    refine g_geti (pc := 11) F fl_X3_36 (by assumption) rfl dX3_addGroup_11 ?_
    refine g_aload_n (pc := 14) F dX3_addGroup_14 rfl ?_
    refine g_getr (pc := 15) F fl_X3_19 (by assumption) rfl dX3_addGroup_15 ?_
    refine g_alenG (pc := 18) F (by assumption) (v := 4) (by decide) dX3_addGroup_18 ?_
    refine g_icmp_lt (pc := 19) (tgt := 25) F dX3_addGroup_19 (by decide) (fun c19 => ?_) (fun c19 => ?_)
    · rw [hr.2.1, hm.2] at c19
      have hm4 : gn S < 4 := (nI_ltI (b := 4) (by omega) (by decide)).mp c19
      have hk3 := hkG (gn S) hm4
      have eO : oGroup S la = (S 1, upd (setGr S (gn S) (g0 la)) 1 (S 1 + 1)) := by
        unfold oGroup
        rw [if_pos hcP, if_neg (fun e => by rw [hm.2, show (4 : Int32) = nI 4 by decide, nI_inj (by omega) (by decide)] at e; omega)]
      rw [eO] at r
      refine g_aload_n (pc := 25) F dX3_addGroup_25 rfl ?_
      refine g_getr (pc := 26) F fl_X3_19 (by assumption) rfl dX3_addGroup_26 ?_
      refine g_aload_n (pc := 29) F dX3_addGroup_29 rfl ?_
      refine g_geti (pc := 30) F fl_X3_36 (by assumption) rfl dX3_addGroup_30 ?_
      refine g_aaldG (pc := 33) (q := gn S) (r := h + 27 + gn S) F hk2 (hr.2.1.trans hm.2) hm4 (by omega) dX3_addGroup_33 ?_
      refine g_iload_n (pc := 34) F dX3_addGroup_34 rfl ?_
      refine g_callV (pc := 35) (rf2 := 0) (rl2 := 0) F cs_X3_120 (by assumption) rfl (by decide) (by rfl) (by rfl) (Nat.le_of_ble_eq_true (by rfl)) (by decide) dX3_addGroup_35 (c_X2_set _ g _ (h + 27 + gn S) hk3 la) (fun v M2 hz => ?_)
      obtain ⟨rfl, rfl⟩ := hz
      refine g_aload_n (pc := 38) F dX3_addGroup_38 rfl ?_
      refine g_dup (pc := 39) F dX3_addGroup_39 rfl ?_
      refine g_geti (pc := 40) F fl_X3_36 (by assumption) rfl dX3_addGroup_40 ?_
      refine g_iconst (pc := 43) (v := 1) F dX3_addGroup_43 (by decide) ?_
      refine g_iadd (pc := 44) F dX3_addGroup_44 ?_
      refine g_puti (pc := 45) F fl_X3_36 rfl rfl (by assumption) rfl dX3_addGroup_45 ?_
      refine g_aload_n (pc := 48) F dX3_addGroup_48 rfl ?_
      refine g_geti (pc := 49) F fl_X3_36 (by assumption) rfl dX3_addGroup_49 ?_
      refine g_iconst (pc := 52) (v := 1) F dX3_addGroup_52 (by decide) ?_
      refine g_isub (pc := 53) F dX3_addGroup_53 ?_
      refine g_iret (pc := 54) F r dX3_addGroup_54 ?_
      obtain ⟨h0, h1, h2, h3, h4, h5⟩ := hr
      have hMh : ∀ r, updr M (h + 27 + gn S) r h = M h := fun r => updr_ne _ _ (by omega)
      have lo : ∀ k, k < 4 → upd (setGr S (gn S) (g0 la)) 1 (S 1 + 1) k = if k = 1 then S 1 + 1 else S k := by
        intro k hk
        rw [upd_get]
        by_cases h1 : k = 1
        · rw [if_pos h1, if_pos h1]
        · rw [if_neg h1, if_neg h1, setGr_lo _ _ _ hk]
      have ec : cn (upd (setGr S (gn S) (g0 la)) 1 (S 1 + 1)) = cn S := by unfold cn; rw [lo 0 (by decide), if_neg (by decide)]
      have eg : gn (upd (setGr S (gn S) (g0 la)) 1 (S 1 + 1)) = gn S + 1 := by
        refine gn_of ?_ (by omega)
        rw [lo 1 (by decide), if_pos rfl, hm.2, nI_1]
      show _ ∧ HR _ h (upd (setGr S (gn S) (g0 la)) 1 (S 1 + 1)) ∧ _
      refine ⟨?_, ⟨?_, ?_, ?_, ?_, ?_, ?_⟩, fun y hy => ?_⟩
      · rw [upd2_self, hMh, h1, Int32.add_sub_cancel]
      · rw [upd2_j _ _ _ (by decide), hMh, h0, lo 0 (by decide), if_neg (by decide)]
      · rw [upd2_self, hMh, h1, lo 1 (by decide), if_pos rfl]
      · rw [upd2_j _ _ _ (by decide), hMh, h2, lo 2 (by decide), if_neg (by decide)]
      · rw [upd2_j _ _ _ (by decide), hMh, h3, lo 3 (by decide), if_neg (by decide)]
      · rw [ec]
        intro k hk
        show CRr _ _ _ _ _
        rw [upd2_k _ _ _ (by omega), upd2_k _ _ _ (by omega), upd2_k _ _ _ (by omega), upd2_k _ _ _ (by omega), updr_ne _ _ (by omega), updr_ne _ _ (by omega), updr_ne _ _ (by omega), updr_ne _ _ (by omega), cw_upd_lo _ _ _ (by decide)]
        exact CRr_congr (h4 k hk) (fun j hj => cw_setGr _ _ _ (by omega) hj)
      · rw [eg]
        intro k hk j hj
        rw [upd2_k _ _ _ (by omega), gw_upd_lo _ _ _ (by decide)]
        by_cases hki : k = gn S
        · subst hki
          rw [updr_self, gw_setGr _ _ _ hj]
          match j, hj with
          | 0, _ | 1, _ | 2, _ | 3, _ => rfl
        · rw [updr_ne _ _ (by omega), gw_setGr_ne _ _ hj hki]
          exact h5 k (by omega) j hj
      · rw [upd2_k _ _ _ (by omega), updr_ne _ _ (by omega)]
    · rw [hr.2.1, hm.2] at c19
      have eO : oGroup S la = (-1000003, S) := by
        unfold oGroup
        rw [if_pos hcP, if_pos (by
          have h6 : ¬ gn S < 4 := fun e => c19 ((nI_ltI (b := 4) (by omega) (by decide)).mpr e)
          rw [hm.2, show (4 : Int32) = nI 4 by decide, nI_inj (by omega) (by decide)]
          omega)]
      refine g_ldc (pc := 22) F wk_X3_50 dX3_addGroup_22 ?_
      refine g_iret (pc := 24) F r dX3_addGroup_24 ?_
      rw [eO]
      exact ⟨rfl, hr, frH.refl _ _⟩
  · have hcN := cb_0 c4
    refine g_ldc (pc := 7) F wk_X3_49 dX3_addGroup_7 ?_
    refine g_iret (pc := 9) F r dX3_addGroup_9 ?_
    have e : oGroup S la = (-1000001, S) := if_neg hcN
    rw [e]
    exact ⟨rfl, hr, frH.refl _ _⟩
end
section
theorem b2i_0 {P : Prop} [Decidable P] (h : b2i P = 0) : ¬ P := fun e => by unfold b2i at h; rw [if_pos e] at h; exact absurd h (by decide)
theorem b2i_1 {P : Prop} [Decidable P] (h : ¬ b2i P = 0) : P := Classical.byContradiction fun e => h (by unfold b2i; rw [if_neg e])
set_option maxHeartbeats 4000000 in
set_option maxRecDepth 100000 in
theorem c_X3_joinGroup (l : Launch) (g : Gm) (M : Mem) (h : Nat) (hk : kd h = 3) (S : SV) (t : Nat) (hr : HR M h S) (hi : Inv S t) (gx x : Int32) : Cn l yX3_joinGroup cX3_joinGroup 5 (some .int) 2 40 g [.ref (ad g h), .int gx, .int x] M (fun v M2 => v = some (.int (oJoin S gx x).1) ∧ HR M2 h (oJoin S gx x).2 ∧ frH M M2 h) := by
  refine Cn.intro (lv0 := [some (.ref (ad g h)), some (.int gx), some (.int x), none, none]) 2 (by decide +kernel) (Nat.le_of_ble_eq_true rfl) rfl (fun X F r => ?_)
  obtain ⟨hk1, hk2, hkC, hkG⟩ := kd_hall hk
  have hn := hi.cn_le
  have hm := hi.gn_le
  refine g_aload_n (pc := 0) F dX3_joinGroup_0 rfl ?_
  refine g_iload_n (pc := 1) F dX3_joinGroup_1 rfl ?_
  refine g_callV (pc := 2) (rf2 := 0) (rl2 := 0) F cs_X3_122 (by assumption) rfl (by decide) (by rfl) (by rfl) (Nat.le_of_ble_eq_true (by rfl)) (by decide) dX3_joinGroup_2 (c_X3_groupAt _ g _ h hk (gn S) hm.1 (hr.2.1.trans hm.2) gx) (fun v M2 hz => ?_)
  obtain ⟨h2, hz⟩ := hz
  rw [h2]
  rcases hz with ⟨gi, hg6, hgx, rfl⟩ | ⟨hnoG, rfl⟩
  · refine g_astore_n (pc := 5) F dX3_joinGroup_5 (by decide) rfl ?_
    refine g_aload_n (pc := 6) F dX3_joinGroup_6 rfl ?_
    refine g_iload_n (pc := 7) F dX3_joinGroup_7 rfl ?_
    refine g_callV (pc := 8) (rf2 := 0) (rl2 := 0) F cs_X3_58 (by assumption) rfl (by decide) (by rfl) (by rfl) (Nat.le_of_ble_eq_true (by rfl)) (by decide) dX3_joinGroup_8 (c_X3_clockAt _ g _ h hk (cn S) hn.1 (hr.1.trans hn.2) x) (fun v M2 hz => ?_)
    obtain ⟨h2, hz⟩ := hz
    rw [h2]
    rcases hz with ⟨i, hi6, hx, rfl⟩ | ⟨hno, rfl⟩
    · refine g_astore (pc := 11) F dX3_joinGroup_11 (by decide) rfl ?_
      refine g_aload_n (pc := 13) F dX3_joinGroup_13 rfl ?_
      refine g_ifnull (pc := 14) F dX3_joinGroup_14 ?_
      refine g_aload (pc := 17) F dX3_joinGroup_17 rfl ?_
      refine g_ifnonnull (pc := 19) (tgt := 25) F dX3_joinGroup_19 (by decide) ?_
      subst hgx
      subst hx
      have hkq := hkG gi (by omega)
      have hkc := hkC i (by omega)
      have hG := hr.2.2.2.2.2 gi hg6
      have hC := hr.2.2.2.2.1 i hi6
      have hin : inG S (nI gi) ∧ inC S (nI i) := ⟨inG_of hi hg6, inC_of hi hi6⟩
      have x1 : ixN (nI gi) = gi := ixN_nI (by omega)
      have x2 : ixN (nI i) = i := ixN_nI (by omega)
      refine g_aload (pc := 25) F dX3_joinGroup_25 rfl ?_
      refine g_geti (pc := 27) F fl_X3_68 (by assumption) rfl dX3_joinGroup_27 ?_
      refine g_aload_n (pc := 30) F dX3_joinGroup_30 rfl ?_
      refine g_geti (pc := 31) F fl_X3_126 (by assumption) rfl dX3_joinGroup_31 ?_
      refine g_icmp_ne (pc := 34) (tgt := 45) F dX3_joinGroup_34 (by decide) (fun c34 => ?_) (fun c34 => ?_)
      · refine g_ldc (pc := 45) F wk_X3_130 dX3_joinGroup_45 ?_
        refine g_iret (pc := 47) F r dX3_joinGroup_47 ?_
        have e : oJoin S (nI gi) (nI i) = (-1000002, S) := by
          unfold oJoin
          rw [x1, x2, if_pos hin]
          exact if_pos (Or.inl (fun q => c34 (by rw [hC.1, hG 0 (by decide)]; exact q)))
        rw [e]
        exact ⟨rfl, hr, frH.refl _ _⟩
      · refine g_aload_n (pc := 37) F dX3_joinGroup_37 rfl ?_
        refine g_iload_n (pc := 38) F dX3_joinGroup_38 rfl ?_
        refine g_callV (pc := 39) (rf2 := 0) (rl2 := 0) F cs_X3_127 (by assumption) rfl (by decide) (by rfl) (by rfl) (Nat.le_of_ble_eq_true (by rfl)) (by decide) dX3_joinGroup_39 (c_X2_has _ g _ (h + 27 + gi) hkq _) (fun v M2 hz => ?_)
        obtain ⟨rfl, h3⟩ := hz
        rw [h3]
        refine g_if_eq (pc := 42) (tgt := 48) F dX3_joinGroup_42 (by decide) (fun c42 => ?_) (fun c42 => ?_)
        · have hIn : ¬ isIn (gw S gi 1) i := by
            have := b2i_0 c42
            rw [hG 1 (by decide)] at this
            exact this
          refine g_aload_n (pc := 48) F dX3_joinGroup_48 rfl ?_
          refine g_callV (pc := 49) (rf2 := 1) (rl2 := 20) F cs_X3_131 (by assumption) rfl (by decide) (by rfl) (by rfl) (Nat.le_of_ble_eq_true (by rfl)) (by decide) dX3_joinGroup_49 (c_X2_size _ g _ (h + 27 + gi) hkq) (fun v M2 hz => ?_)
          obtain ⟨rfl, h3⟩ := hz
          rw [h3]
          refine g_iconst (pc := 52) (v := 4) F dX3_joinGroup_52 (by decide) ?_
          refine g_icmp_lt (pc := 53) (tgt := 59) F dX3_joinGroup_53 (by decide) (fun c53 => ?_) (fun c53 => ?_)
          · rw [hG 1 (by decide)] at c53
            refine g_aload_n (pc := 59) F dX3_joinGroup_59 rfl ?_
            refine g_dup (pc := 60) F dX3_joinGroup_60 rfl ?_
            refine g_geti (pc := 61) F fl_X3_134 (by assumption) rfl dX3_joinGroup_61 ?_
            refine g_iconst (pc := 64) (v := 1) F dX3_joinGroup_64 (by decide) ?_
            refine g_iload_n (pc := 65) F dX3_joinGroup_65 rfl ?_
            refine g_ishl (pc := 66) F dX3_joinGroup_66 ?_
            refine g_ior (pc := 67) F dX3_joinGroup_67 ?_
            refine g_puti (pc := 68) F fl_X3_134 rfl rfl (by assumption) rfl dX3_joinGroup_68 ?_
            refine g_aload_n (pc := 71) F dX3_joinGroup_71 rfl ?_
            refine g_callV (pc := 72) (rf2 := 1) (rl2 := 20) F cs_X3_131 (by assumption) rfl (by decide) (by rfl) (by rfl) (Nat.le_of_ble_eq_true (by rfl)) (by decide) dX3_joinGroup_72 (c_X2_size _ g _ (h + 27 + gi) hkq) (fun v M2 hz => ?_)
            obtain ⟨rfl, h3⟩ := hz
            rw [h3]
            refine g_iret (pc := 75) F r dX3_joinGroup_75 ?_
            have e : oJoin S (nI gi) (nI i) = (jbc (gw S gi 1 ||| (1 <<< (nI i &&& 31))), mem1 S gi (gw S gi 1 ||| (1 <<< (nI i &&& 31)))) := by
              unfold oJoin
              rw [x1, x2, if_pos hin]
              have hl : cw S i 0 = gw S gi 0 := by rw [← hC.1, ← hG 0 (by decide)]; exact c34
              rw [if_neg (fun q => q.elim (fun z => z hl) hIn), if_pos c53]
            rw [e]
            rw [upd2_self, hG 1 (by decide), upd2_updr]
            refine ⟨rfl, HR_group hr hn.1 hm.1 (by omega) (fun j hj => ?_), fun y hy => updr_ne _ _ (by omega)⟩
            rw [upd_get, upd_get, hG j hj]
          · rw [hG 1 (by decide)] at c53
            refine g_ldc (pc := 56) F wk_X3_50 dX3_joinGroup_56 ?_
            refine g_iret (pc := 58) F r dX3_joinGroup_58 ?_
            have e : oJoin S (nI gi) (nI i) = (-1000003, S) := by
              unfold oJoin
              rw [x1, x2, if_pos hin]
              have hl : cw S i 0 = gw S gi 0 := by rw [← hC.1, ← hG 0 (by decide)]; exact c34
              rw [if_neg (fun q => q.elim (fun z => z hl) hIn), if_neg c53]
            rw [e]
            exact ⟨rfl, hr, frH.refl _ _⟩
        · have hIn : isIn (gw S gi 1) i := by
            have := b2i_1 c42
            rw [hG 1 (by decide)] at this
            exact this
          refine g_ldc (pc := 45) F wk_X3_130 dX3_joinGroup_45 ?_
          refine g_iret (pc := 47) F r dX3_joinGroup_47 ?_
          have e : oJoin S (nI gi) (nI i) = (-1000002, S) := by
            unfold oJoin
            rw [x1, x2, if_pos hin]
            exact if_pos (Or.inr hIn)
          rw [e]
          exact ⟨rfl, hr, frH.refl _ _⟩
    · refine g_astoreN (pc := 11) F dX3_joinGroup_11 (by decide) rfl ?_
      refine g_aload_n (pc := 13) F dX3_joinGroup_13 rfl ?_
      refine g_ifnull (pc := 14) F dX3_joinGroup_14 ?_
      refine g_aloadN (pc := 17) F dX3_joinGroup_17 rfl ?_
      refine g_ifnonnullN (pc := 19) F dX3_joinGroup_19 ?_
      refine g_ldc (pc := 22) F wk_X3_49 dX3_joinGroup_22 ?_
      refine g_iret (pc := 24) F r dX3_joinGroup_24 ?_
      have e : oJoin S gx x = (-1000001, S) := if_neg (fun q => inC_not hi hno q.2)
      rw [e]
      exact ⟨rfl, hr, frH.refl _ _⟩
  · refine g_astore_nN (pc := 5) F dX3_joinGroup_5 (by decide) rfl ?_
    refine g_aload_n (pc := 6) F dX3_joinGroup_6 rfl ?_
    refine g_iload_n (pc := 7) F dX3_joinGroup_7 rfl ?_
    refine g_callV (pc := 8) (rf2 := 0) (rl2 := 0) F cs_X3_58 (by assumption) rfl (by decide) (by rfl) (by rfl) (Nat.le_of_ble_eq_true (by rfl)) (by decide) dX3_joinGroup_8 (c_X3_clockAt _ g _ h hk (cn S) hn.1 (hr.1.trans hn.2) x) (fun v M2 hz => ?_)
    obtain ⟨h2, hz⟩ := hz
    rw [h2]
    rcases hz with ⟨i, hi6, hx, rfl⟩ | ⟨hno, rfl⟩
    · refine g_astore (pc := 11) F dX3_joinGroup_11 (by decide) rfl ?_
      refine g_aload_nN (pc := 13) F dX3_joinGroup_13 rfl ?_
      refine g_ifnullN (pc := 14) (tgt := 22) F dX3_joinGroup_14 (by decide) ?_
      refine g_ldc (pc := 22) F wk_X3_49 dX3_joinGroup_22 ?_
      refine g_iret (pc := 24) F r dX3_joinGroup_24 ?_
      have e : oJoin S gx x = (-1000001, S) := if_neg (fun q => inG_not hi hnoG q.1)
      rw [e]
      exact ⟨rfl, hr, frH.refl _ _⟩
    · refine g_astoreN (pc := 11) F dX3_joinGroup_11 (by decide) rfl ?_
      refine g_aload_nN (pc := 13) F dX3_joinGroup_13 rfl ?_
      refine g_ifnullN (pc := 14) (tgt := 22) F dX3_joinGroup_14 (by decide) ?_
      refine g_ldc (pc := 22) F wk_X3_49 dX3_joinGroup_22 ?_
      refine g_iret (pc := 24) F r dX3_joinGroup_24 ?_
      have e : oJoin S gx x = (-1000001, S) := if_neg (fun q => inG_not hi hnoG q.1)
      rw [e]
      exact ⟨rfl, hr, frH.refl _ _⟩

set_option maxHeartbeats 4000000 in
set_option maxRecDepth 100000 in
theorem c_X3_leaveGroup (l : Launch) (g : Gm) (M : Mem) (h : Nat) (hk : kd h = 3) (S : SV) (t : Nat) (hr : HR M h S) (hi : Inv S t) (gx x : Int32) : Cn l yX3_leaveGroup cX3_leaveGroup 4 (some .int) 2 40 g [.ref (ad g h), .int gx, .int x] M (fun v M2 => v = some (.int (oLeave S gx x).1) ∧ HR M2 h (oLeave S gx x).2 ∧ frH M M2 h) := by
  refine Cn.intro (lv0 := [some (.ref (ad g h)), some (.int gx), some (.int x), none]) 1 (by decide +kernel) (Nat.le_of_ble_eq_true rfl) rfl (fun X F r => ?_)
  obtain ⟨hk1, hk2, hkC, hkG⟩ := kd_hall hk
  have hn := hi.cn_le
  have hm := hi.gn_le
  refine g_aload_n (pc := 0) F dX3_leaveGroup_0 rfl ?_
  refine g_iload_n (pc := 1) F dX3_leaveGroup_1 rfl ?_
  refine g_callV (pc := 2) (rf2 := 0) (rl2 := 0) F cs_X3_122 (by assumption) rfl (by decide) (by rfl) (by rfl) (Nat.le_of_ble_eq_true (by rfl)) (by decide) dX3_leaveGroup_2 (c_X3_groupAt _ g _ h hk (gn S) hm.1 (hr.2.1.trans hm.2) gx) (fun v M2 hz => ?_)
  obtain ⟨h2, hz⟩ := hz
  rw [h2]
  rcases hz with ⟨gi, hg6, hgx, rfl⟩ | ⟨hnoG, rfl⟩
  · refine g_astore_n (pc := 5) F dX3_leaveGroup_5 (by decide) rfl ?_
    refine g_aload_n (pc := 6) F dX3_leaveGroup_6 rfl ?_
    refine g_ifnull (pc := 7) F dX3_leaveGroup_7 ?_
    refine g_aload_n (pc := 10) F dX3_leaveGroup_10 rfl ?_
    refine g_iload_n (pc := 11) F dX3_leaveGroup_11 rfl ?_
    refine g_callV (pc := 12) (rf2 := 0) (rl2 := 0) F cs_X3_58 (by assumption) rfl (by decide) (by rfl) (by rfl) (Nat.le_of_ble_eq_true (by rfl)) (by decide) dX3_leaveGroup_12 (c_X3_clockAt _ g _ h hk (cn S) hn.1 (hr.1.trans hn.2) x) (fun v M2 hz => ?_)
    obtain ⟨h2, hz⟩ := hz
    rw [h2]
    rcases hz with ⟨i, hi6, hx, rfl⟩ | ⟨hno, rfl⟩
    · refine g_ifnonnull (pc := 15) (tgt := 21) F dX3_leaveGroup_15 (by decide) ?_
      subst hgx
      subst hx
      have hkq := hkG gi (by omega)
      have hkc := hkC i (by omega)
      have hG := hr.2.2.2.2.2 gi hg6
      have hC := hr.2.2.2.2.1 i hi6
      have hin : inG S (nI gi) ∧ inC S (nI i) := ⟨inG_of hi hg6, inC_of hi hi6⟩
      have x1 : ixN (nI gi) = gi := ixN_nI (by omega)
      have x2 : ixN (nI i) = i := ixN_nI (by omega)
      refine g_aload_n (pc := 21) F dX3_leaveGroup_21 rfl ?_
      refine g_iload_n (pc := 22) F dX3_leaveGroup_22 rfl ?_
      refine g_callV (pc := 23) (rf2 := 0) (rl2 := 0) F cs_X3_127 (by assumption) rfl (by decide) (by rfl) (by rfl) (Nat.le_of_ble_eq_true (by rfl)) (by decide) dX3_leaveGroup_23 (c_X2_has _ g _ (h + 27 + gi) hkq _) (fun v M2 hz => ?_)
      obtain ⟨rfl, h3⟩ := hz
      rw [h3]
      refine g_if_ne (pc := 26) (tgt := 32) F dX3_leaveGroup_26 (by decide) (fun c26 => ?_) (fun c26 => ?_)
      · have hIn : isIn (gw S gi 1) i := by
          have := b2i_1 c26
          rw [hG 1 (by decide)] at this
          exact this
        refine g_aload_n (pc := 32) F dX3_leaveGroup_32 rfl ?_
        refine g_dup (pc := 33) F dX3_leaveGroup_33 rfl ?_
        refine g_geti (pc := 34) F fl_X3_134 (by assumption) rfl dX3_leaveGroup_34 ?_
        refine g_iconst (pc := 37) (v := 1) F dX3_leaveGroup_37 (by decide) ?_
        refine g_iload_n (pc := 38) F dX3_leaveGroup_38 rfl ?_
        refine g_ishl (pc := 39) F dX3_leaveGroup_39 ?_
        refine g_iconst (pc := 40) (v := -1) F dX3_leaveGroup_40 (by decide) ?_
        refine g_ixor (pc := 41) F dX3_leaveGroup_41 ?_
        refine g_iand (pc := 42) F dX3_leaveGroup_42 ?_
        refine g_puti (pc := 43) F fl_X3_134 rfl rfl (by assumption) rfl dX3_leaveGroup_43 ?_
        refine g_aload_n (pc := 46) F dX3_leaveGroup_46 rfl ?_
        refine g_callV (pc := 47) (rf2 := 1) (rl2 := 20) F cs_X3_131 (by assumption) rfl (by decide) (by rfl) (by rfl) (Nat.le_of_ble_eq_true (by rfl)) (by decide) dX3_leaveGroup_47 (c_X2_size _ g _ (h + 27 + gi) hkq) (fun v M2 hz => ?_)
        obtain ⟨rfl, h3⟩ := hz
        rw [h3]
        refine g_iret (pc := 50) F r dX3_leaveGroup_50 ?_
        have e : oLeave S (nI gi) (nI i) = (jbc (gw S gi 1 &&& ((1 <<< (nI i &&& 31)) ^^^ -1)), mem1 S gi (gw S gi 1 &&& ((1 <<< (nI i &&& 31)) ^^^ -1))) := by
          unfold oLeave
          rw [x1, x2, if_pos hin]
          exact if_pos hIn
        rw [e]
        rw [upd2_self, hG 1 (by decide), upd2_updr]
        refine ⟨rfl, HR_group hr hn.1 hm.1 (by omega) (fun j hj => ?_), fun y hy => updr_ne _ _ (by omega)⟩
        rw [upd_get, upd_get, hG j hj]
      · have hIn : ¬ isIn (gw S gi 1) i := by
          have := b2i_0 c26
          rw [hG 1 (by decide)] at this
          exact this
        refine g_ldc (pc := 29) F wk_X3_130 dX3_leaveGroup_29 ?_
        refine g_iret (pc := 31) F r dX3_leaveGroup_31 ?_
        have e : oLeave S (nI gi) (nI i) = (-1000002, S) := by
          unfold oLeave
          rw [x1, x2, if_pos hin]
          exact if_neg hIn
        rw [e]
        exact ⟨rfl, hr, frH.refl _ _⟩
    · refine g_ifnonnullN (pc := 15) F dX3_leaveGroup_15 ?_
      refine g_ldc (pc := 18) F wk_X3_49 dX3_leaveGroup_18 ?_
      refine g_iret (pc := 20) F r dX3_leaveGroup_20 ?_
      have e : oLeave S gx x = (-1000001, S) := if_neg (fun q => inC_not hi hno q.2)
      rw [e]
      exact ⟨rfl, hr, frH.refl _ _⟩
  · refine g_astore_nN (pc := 5) F dX3_leaveGroup_5 (by decide) rfl ?_
    refine g_aload_nN (pc := 6) F dX3_leaveGroup_6 rfl ?_
    refine g_ifnullN (pc := 7) (tgt := 18) F dX3_leaveGroup_7 (by decide) ?_
    refine g_ldc (pc := 18) F wk_X3_49 dX3_leaveGroup_18 ?_
    refine g_iret (pc := 20) F r dX3_leaveGroup_20 ?_
    have e : oLeave S gx x = (-1000001, S) := if_neg (fun q => inG_not hi hnoG q.1)
    rw [e]
    exact ⟨rfl, hr, frH.refl _ _⟩

theorem CR_copy {M : Mem} {k o : Nat} {w : Nat → Int32} (h : CR M o w) : CR (ccpM M k o) k w := by
  unfold ccpM CR
  rw [updr_ne _ _ (show k ≠ k + 3 by omega), updr_ne _ _ (show k ≠ k + 2 by omega), updr_self, updr_ne _ _ (show k + 1 ≠ k + 3 by omega), updr_ne _ _ (show k + 1 ≠ k + 2 by omega), updr_ne _ _ (show k + 1 ≠ k by omega), updr_self, updr_ne _ _ (show k + 2 ≠ k + 3 by omega), updr_self, updr_self]
  refine CRr_rows h (fun j hj h1 => ?_) (fun j hj => ?_) (fun j hj => ?_) (fun j hj => ?_)
  · match j, hj, h1 with
    | 0, _, _ | 2, _, _ | 3, _, _ | 4, _, _ | 5, _, _ | 6, _, _ | 7, _, _ => rfl
  · unfold va_cpy
    rw [if_pos ⟨Nat.zero_le _, by omega⟩]
    congr 1
    omega
  · unfold rcopy; rw [if_pos hj]
  · unfold rcopy; rw [if_pos hj]
theorem ccpM_ne (M : Mem) (k o : Nat) {a : Nat} (h : a < k ∨ k + 4 ≤ a) : ccpM M k o a = M a := by
  unfold ccpM
  rw [updr_ne _ _ (by omega), updr_ne _ _ (by omega), updr_ne _ _ (by omega), updr_ne _ _ (by omega)]
set_option maxHeartbeats 4000000 in
set_option maxRecDepth 100000 in
theorem c_X3_copyFrom (l : Launch) (g : Gm) (M : Mem) (h o : Nat) (hk : kd h = 3) (ho : kd o = 3) (hd : h + 31 ≤ o ∨ o + 31 ≤ h) (S : SV) (t : Nat) (hr : HR M o S) (hi : Inv S t) : Cn l yX3_copyFrom cX3_copyFrom 3 none 2 61 g [.ref (ad g h), .ref (ad g o)] M (fun v M2 => v = none ∧ HR M2 h S ∧ frH M M2 h) := by
  refine Cn.intro (lv0 := [some (.ref (ad g h)), some (.ref (ad g o)), none]) 1 (by decide +kernel) (Nat.le_of_ble_eq_true rfl) rfl (fun X F r => ?_)
  obtain ⟨hk1, hk2, hkC, hkG⟩ := kd_hall hk
  obtain ⟨ho1, ho2, hoC, hoG⟩ := kd_hall ho
  have hn := hi.cn_le
  have hm := hi.gn_le
  have LG : ∀ (n i : Nat) (x : Int32) (M1 : Mem), i + n = gn S → x = nI i → M1 h 1 = S 0 → M1 h 3 = S 1 → (∀ k, k < cn S → CR M1 (h + 3 + 4 * k) (cw S k)) → (∀ k, k < i → ∀ j, j < 4 → M1 (h + 27 + k) j = gw S k j) → frH M M1 h → G X g 3 M1 55 [some (.ref (ad g h)), some (.ref (ad g o)), some (.int x)] [] := by
    intro n
    induction n with
    | zero =>
      intro i x M1 hin hx hM1 hM3 hK1 hG1 hf1
      obtain rfl : i = gn S := by omega
      refine g_iload_n (pc := 55) F dX3_copyFrom_55 rfl ?_
      refine g_aload_n (pc := 56) F dX3_copyFrom_56 rfl ?_
      refine g_geti (pc := 57) F fl_X3_36 (by assumption) rfl dX3_copyFrom_57 ?_
      refine g_icmp_ge (pc := 60) (tgt := 89) F dX3_copyFrom_60 (by decide) (fun c60 => ?_) (fun c60 => ?_)
      · refine g_aload_n (pc := 89) F dX3_copyFrom_89 rfl ?_
        refine g_aload_n (pc := 90) F dX3_copyFrom_90 rfl ?_
        refine g_geti (pc := 91) F fl_X3_42 (by assumption) rfl dX3_copyFrom_91 ?_
        refine g_puti (pc := 94) F fl_X3_42 rfl rfl (by assumption) rfl dX3_copyFrom_94 ?_
        refine g_aload_n (pc := 97) F dX3_copyFrom_97 rfl ?_
        refine g_aload_n (pc := 98) F dX3_copyFrom_98 rfl ?_
        refine g_geti (pc := 99) F fl_X3_23 (by assumption) rfl dX3_copyFrom_99 ?_
        refine g_puti (pc := 102) F fl_X3_23 rfl rfl (by assumption) rfl dX3_copyFrom_102 ?_
        refine g_vret (pc := 105) F r dX3_copyFrom_105 ?_
        refine ⟨rfl, ⟨?_, ?_, ?_, ?_, ?_, ?_⟩, ?_⟩
        · rw [upd2_j _ _ _ (by decide), upd2_j _ _ _ (by decide)]; exact hM1
        · rw [upd2_j _ _ _ (by decide), upd2_j _ _ _ (by decide), hM3]
        · rw [upd2_j _ _ _ (by decide), upd2_self, hf1 o (by omega)]; exact hr.2.2.1
        · rw [upd2_self, upd2_k _ _ _ (by omega), hf1 o (by omega)]; exact hr.2.2.2.1
        · intro k hk
          show CRr _ _ _ _ _
          rw [upd2_k _ _ _ (by omega), upd2_k _ _ _ (by omega), upd2_k _ _ _ (by omega), upd2_k _ _ _ (by omega), upd2_k _ _ _ (by omega), upd2_k _ _ _ (by omega), upd2_k _ _ _ (by omega), upd2_k _ _ _ (by omega)]
          exact hK1 k hk
        · intro k hk j hj
          rw [upd2_k _ _ _ (by omega), upd2_k _ _ _ (by omega)]
          exact hG1 k hk j hj
        · exact hf1.trans (fun y hy => (upd2_k _ _ _ (by omega)).trans (upd2_k _ _ _ (by omega)))
      · exact absurd (by rw [hM3, hm.2, hx]; exact nI_le (by omega) (by omega)) c60
    | succ n ih =>
      intro i x M1 hin hx hM1 hM3 hK1 hG1 hf1
      refine g_iload_n (pc := 55) F dX3_copyFrom_55 rfl ?_
      refine g_aload_n (pc := 56) F dX3_copyFrom_56 rfl ?_
      refine g_geti (pc := 57) F fl_X3_36 (by assumption) rfl dX3_copyFrom_57 ?_
      refine g_icmp_ge (pc := 60) (tgt := 89) F dX3_copyFrom_60 (by decide) (fun c60 => ?_) (fun c60 => ?_)
      · exact absurd c60 (by rw [hM3, hm.2, hx]; exact nI_ge (by omega) (by omega))
      · refine g_iload_n (pc := 63) F dX3_copyFrom_63 rfl ?_
        refine g_iconst (pc := 64) (v := 4) F dX3_copyFrom_64 (by decide) ?_
        refine g_icmp_ge (pc := 65) (tgt := 89) F dX3_copyFrom_65 (by decide) (fun c65 => ?_) (fun c65 => ?_)
        · exact absurd c65 (by rw [hx]; exact nI_ge (a := i) (b := 4) (by omega) (by decide))
        · refine g_aload_n (pc := 68) F dX3_copyFrom_68 rfl ?_
          refine g_getr (pc := 69) F fl_X3_19 (by assumption) rfl dX3_copyFrom_69 ?_
          refine g_iload_n (pc := 72) F dX3_copyFrom_72 rfl ?_
          refine g_aaldG (pc := 73) (q := i) (r := h + 27 + i) F hk2 hx (by omega) (by omega) dX3_copyFrom_73 ?_
          refine g_aload_n (pc := 74) F dX3_copyFrom_74 rfl ?_
          refine g_getr (pc := 75) F fl_X3_19 (by assumption) rfl dX3_copyFrom_75 ?_
          refine g_iload_n (pc := 78) F dX3_copyFrom_78 rfl ?_
          refine g_aaldG (pc := 79) (q := i) (r := o + 27 + i) F ho2 hx (by omega) (by omega) dX3_copyFrom_79 ?_
          refine g_callV (pc := 80) (rf2 := 0) (rl2 := 0) F cs_X3_39 (hkG i (by omega)) rfl (by decide) (by rfl) (by rfl) (Nat.le_of_ble_eq_true (by rfl)) (by decide) dX3_copyFrom_80 (c_X2_copyFrom _ g _ (h + 27 + i) (o + 27 + i) (hkG i (by omega)) (hoG i (by omega)) (by omega)) (fun v M2 hz => ?_)
          obtain ⟨rfl, rfl⟩ := hz
          refine g_iinc (pc := 83) F dX3_copyFrom_83 rfl rfl (by decide) rfl ?_
          refine g_goto (pc := 86) (tgt := 55) F dX3_copyFrom_86 (by decide) ?_
          refine G.sub [some (.ref (ad g h)), some (.ref (ad g o)), some (.int (x + Int32.ofInt 1))] ⟨rfl, rfl, rfl, trivial⟩ (ih (i + 1) _ _ (by omega) (by rw [hx]; exact nI_1 i) ?_ ?_ ?_ ?_ ?_)
          · rw [updr_ne _ _ (by omega)]; exact hM1
          · rw [updr_ne _ _ (by omega)]; exact hM3
          · intro k hk
            show CRr _ _ _ _ _
            rw [updr_ne _ _ (by omega), updr_ne _ _ (by omega), updr_ne _ _ (by omega), updr_ne _ _ (by omega)]
            exact hK1 k hk
          · intro k hk j hj
            by_cases hki : k = i
            · subst hki
              rw [updr_self, if_pos hj, hf1 _ (by omega)]
              exact hr.2.2.2.2.2 k (by omega) j hj
            · rw [updr_ne _ _ (by omega)]
              exact hG1 k (by omega) j hj
          · exact hf1.trans (fun y hy => updr_ne _ _ (by omega))
  have LC : ∀ (n i : Nat) (x : Int32) (M1 : Mem), i + n = cn S → x = nI i → M1 h 1 = S 0 → (∀ k, k < i → CR M1 (h + 3 + 4 * k) (cw S k)) → frH M M1 h → G X g 3 M1 10 [some (.ref (ad g h)), some (.ref (ad g o)), some (.int x)] [] := by
    intro n
    induction n with
    | zero =>
      intro i x M1 hin hx hM1 hK1 hf1
      obtain rfl : i = cn S := by omega
      refine g_iload_n (pc := 10) F dX3_copyFrom_10 rfl ?_
      refine g_aload_n (pc := 11) F dX3_copyFrom_11 rfl ?_
      refine g_geti (pc := 12) F fl_X3_29 (by assumption) rfl dX3_copyFrom_12 ?_
      refine g_icmp_ge (pc := 15) (tgt := 45) F dX3_copyFrom_15 (by decide) (fun c15 => ?_) (fun c15 => ?_)
      · refine g_aload_n (pc := 45) F dX3_copyFrom_45 rfl ?_
        refine g_aload_n (pc := 46) F dX3_copyFrom_46 rfl ?_
        refine g_geti (pc := 47) F fl_X3_36 (by assumption) rfl dX3_copyFrom_47 ?_
        refine g_puti (pc := 50) F fl_X3_36 rfl rfl (by assumption) rfl dX3_copyFrom_50 ?_
        refine g_iconst (pc := 53) (v := 0) F dX3_copyFrom_53 (by decide) ?_
        refine g_istore_n (pc := 54) F dX3_copyFrom_54 (by decide) rfl ?_
        refine LG (gn S) 0 _ _ (by omega) nI_0.symm ?_ ?_ ?_ ?_ ?_
        · rw [upd2_j _ _ _ (by decide)]; exact hM1
        · rw [upd2_self, hf1 o (by omega)]; exact hr.2.1
        · intro k hk
          show CRr _ _ _ _ _
          rw [upd2_k _ _ _ (by omega), upd2_k _ _ _ (by omega), upd2_k _ _ _ (by omega), upd2_k _ _ _ (by omega)]
          exact hK1 k (by omega)
        · intro k hk; omega
        · exact hf1.trans (fun y hy => upd2_k _ _ _ (by omega))
      · exact absurd (by rw [hM1, hn.2, hx]; exact nI_le (by omega) (by omega)) c15
    | succ n ih =>
      intro i x M1 hin hx hM1 hK1 hf1
      refine g_iload_n (pc := 10) F dX3_copyFrom_10 rfl ?_
      refine g_aload_n (pc := 11) F dX3_copyFrom_11 rfl ?_
      refine g_geti (pc := 12) F fl_X3_29 (by assumption) rfl dX3_copyFrom_12 ?_
      refine g_icmp_ge (pc := 15) (tgt := 45) F dX3_copyFrom_15 (by decide) (fun c15 => ?_) (fun c15 => ?_)
      · exact absurd c15 (by rw [hM1, hn.2, hx]; exact nI_ge (by omega) (by omega))
      · refine g_iload_n (pc := 18) F dX3_copyFrom_18 rfl ?_
        refine g_bipush (pc := 19) (v := 6) F dX3_copyFrom_19 (by decide) ?_
        refine g_icmp_ge (pc := 21) (tgt := 45) F dX3_copyFrom_21 (by decide) (fun c21 => ?_) (fun c21 => ?_)
        · exact absurd c21 (by rw [hx]; exact nI_ge (a := i) (b := 6) (by omega) (by decide))
        · refine g_aload_n (pc := 24) F dX3_copyFrom_24 rfl ?_
          refine g_getr (pc := 25) F fl_X3_11 (by assumption) rfl dX3_copyFrom_25 ?_
          refine g_iload_n (pc := 28) F dX3_copyFrom_28 rfl ?_
          refine g_aaldK (pc := 29) (q := i) (r := h + 3 + 4 * i) F hk1 hx (by omega) (by omega) dX3_copyFrom_29 ?_
          refine g_aload_n (pc := 30) F dX3_copyFrom_30 rfl ?_
          refine g_getr (pc := 31) F fl_X3_11 (by assumption) rfl dX3_copyFrom_31 ?_
          refine g_iload_n (pc := 34) F dX3_copyFrom_34 rfl ?_
          refine g_aaldK (pc := 35) (q := i) (r := o + 3 + 4 * i) F ho1 hx (by omega) (by omega) dX3_copyFrom_35 ?_
          refine g_callV (pc := 36) (rf2 := 1) (rl2 := 40) F cs_X3_32 (hkC i (by omega)) rfl (by decide) (by rfl) (by rfl) (Nat.le_of_ble_eq_true (by rfl)) (by decide) dX3_copyFrom_36 (c_X0_copyFrom _ g _ (h + 3 + 4 * i) (o + 3 + 4 * i) (hkC i (by omega)) (hoC i (by omega)) (by omega)) (fun v M2 hz => ?_)
          obtain ⟨rfl, rfl⟩ := hz
          refine g_iinc (pc := 39) F dX3_copyFrom_39 rfl rfl (by decide) rfl ?_
          refine g_goto (pc := 42) (tgt := 10) F dX3_copyFrom_42 (by decide) ?_
          refine G.sub [some (.ref (ad g h)), some (.ref (ad g o)), some (.int (x + Int32.ofInt 1))] ⟨rfl, rfl, rfl, trivial⟩ (ih (i + 1) _ _ (by omega) (by rw [hx]; exact nI_1 i) ?_ ?_ ?_)
          · rw [ccpM_ne _ _ _ (by omega)]; exact hM1
          · intro k hk
            by_cases hki : k = i
            · subst hki
              refine CR_copy ?_
              have := hr.2.2.2.2.1 k (by omega)
              show CRr _ _ _ _ _
              rw [hf1 _ (by omega), hf1 _ (by omega), hf1 _ (by omega), hf1 _ (by omega)]
              exact this
            · show CRr _ _ _ _ _
              rw [ccpM_ne _ _ _ (by omega), ccpM_ne _ _ _ (by omega), ccpM_ne _ _ _ (by omega), ccpM_ne _ _ _ (by omega)]
              exact hK1 k (by omega)
          · exact hf1.trans (fun y hy => ccpM_ne _ _ _ (by omega))
  refine g_aload_n (pc := 0) F dX3_copyFrom_0 rfl ?_
  refine g_aload_n (pc := 1) F dX3_copyFrom_1 rfl ?_
  refine g_geti (pc := 2) F fl_X3_29 (by assumption) rfl dX3_copyFrom_2 ?_
  refine g_puti (pc := 5) F fl_X3_29 rfl rfl (by assumption) rfl dX3_copyFrom_5 ?_
  refine g_iconst (pc := 8) (v := 0) F dX3_copyFrom_8 (by decide) ?_
  refine g_istore_n (pc := 9) F dX3_copyFrom_9 (by decide) rfl ?_
  refine LC (cn S) 0 _ _ (by omega) nI_0.symm ?_ ?_ ?_
  · rw [upd2_self]; exact hr.1
  · intro k hk; omega
  · exact fun y hy => upd2_k _ _ _ (by omega)
end
section
/-! what a hall tells -/
/-- the numbers of a clock as it tells them -/
def wv (w : Nat → Int32) (q : Nat) : Int32 := match q with
  | 5 => w 6
  | 6 => w 7
  | 7 => w 6 - w 7
  | 10 => if w 8 = 0 then -1000004 else w 11
  | 11 => w 12
  | 12 => w 13
  | 13 => w 14
  | q => w q
theorem i_sub_sub (a b : Int32) : a - (a - b) = b := by
  rw [Int32.sub_eq_iff_eq_add, Int32.add_comm, Int32.sub_add_cancel]
theorem tellV_wv {M : Mem} {c : Nat} {w : Nat → Int32} (h : CR M c w) (q : Nat) (hq : q < 14) : tellV M c q = wv w q := by
  obtain ⟨h0, h1, h2, h3, h4, h5, h6, h7, h8, h9, h10, h11, h12, h13⟩ := h
  match q, hq with
  | 0, _ => exact h0
  | 1, _ => exact h1 0 (by decide)
  | 2, _ => exact h1 1 (by decide)
  | 3, _ => exact h1 2 (by decide)
  | 4, _ => exact h1 3 (by decide)
  | 5, _ => exact h3
  | 6, _ =>
    show M c 3 - M c 4 = w 7
    rw [h3, h4, i_sub_sub]
  | 7, _ => exact h4
  | 8, _ => exact h8
  | 9, _ => exact h9
  | 10, _ =>
    show (if M (c + 2) 0 = 0 then (-1000004 : Int32) else M (c + 2) 4) = (if w 8 = 0 then -1000004 else w 11)
    rw [h8, h12]
  | 11, _ => exact h5
  | 12, _ => exact h6
  | 13, _ => exact h7
def sumW (S : SV) (z : Int32) (q : Nat) : Nat → Int32
  | 0 => 0
  | i + 1 => if isIn z i then sumW S z q i + wv (cw S i) q else sumW S z q i
abbrev restW (S : SV) (i : Nat) : Int32 := cw S i 6 - cw S i 7
def leastW (S : SV) (z : Int32) : Nat → Int32
  | 0 => -1000004
  | i + 1 => if isIn z i ∧ (leastW S z i = -1000004 ∨ restW S i < leastW S z i) then restW S i else leastW S z i
def aheadW (S : SV) (c : Nat) : Nat → Int32
  | 0 => 0
  | i + 1 => if restW S i < restW S c ∨ (restW S i = restW S c ∧ i < c) then aheadW S c i + 1 else aheadW S c i
/-- the clock in a place, from the clock cn S - k on -/
def nextW (S : SV) (p : Int32) : Nat → Int32
  | 0 => -1000004
  | k + 1 => if aheadW S (cn S - (k + 1)) (cn S) = p then nI (cn S - (k + 1)) else nextW S p k
def aboutW (S : SV) : Nat → Int32
  | 0 => 0
  | i + 1 => if restW S i = 1 then aboutW S i ||| (1 <<< (nI i &&& 31)) else aboutW S i
def oldestW (S : SV) : Nat → Int32
  | 0 => -1000004
  | i + 1 => if oldestW S i < cw S i 7 then cw S i 7 else oldestW S i
set_option maxHeartbeats 4000000 in
set_option maxRecDepth 100000 in
theorem c_X3_sumOver (l : Launch) (g : Gm) (M : Mem) (h : Nat) (hk : kd h = 3) (S : SV) (t : Nat) (hr : HR M h S) (hi : Inv S t) (z : Int32) (q : Nat) (hq : q < 14) : Cn l yX3_sumOver cX3_sumOver 5 (some .int) 2 41 g [.ref (ad g h), .int z, .int (nI q)] M (fun v M2 => v = some (.int (sumW S z q (cn S))) ∧ M2 = M) := by
  refine Cn.intro (lv0 := [some (.ref (ad g h)), some (.int z), some (.int (nI q)), none, none]) 2 (by decide +kernel) (Nat.le_of_ble_eq_true rfl) rfl (fun X F r => ?_)
  obtain ⟨hk1, hk2, hkC, hkG⟩ := kd_hall hk
  have hn := hi.cn_le
  have hm := hi.gn_le
  have L : ∀ (n i : Nat) (x : Int32), i + n = cn S → x = nI i → G X g 5 M 5 [some (.ref (ad g h)), some (.int z), some (.int (nI q)), some (.int (sumW S z q i)), some (.int x)] [] := by
    intro n
    induction n with
    | zero =>
      intro i x hin hx
      obtain rfl : i = cn S := by omega
      refine g_iload (pc := 5) F dX3_sumOver_5 rfl ?_
      refine g_aload_n (pc := 7) F dX3_sumOver_7 rfl ?_
      refine g_geti (pc := 8) F fl_X3_29 (by assumption) rfl dX3_sumOver_8 ?_
      refine g_icmp_ge (pc := 11) (tgt := 53) F dX3_sumOver_11 (by decide) (fun c11 => ?_) (fun c11 => ?_)
      · refine g_iload_n (pc := 53) F dX3_sumOver_53 rfl ?_
        refine g_iret (pc := 54) F r dX3_sumOver_54 ?_
        exact ⟨rfl, rfl⟩
      · exact absurd (by rw [hr.1, hn.2, hx]; exact nI_le (by omega) (by omega)) c11
    | succ n ih =>
      intro i x hin hx
      have hC := hr.2.2.2.2.1 i (by omega)
      have hkc := hkC i (by omega)
      refine g_iload (pc := 5) F dX3_sumOver_5 rfl ?_
      refine g_aload_n (pc := 7) F dX3_sumOver_7 rfl ?_
      refine g_geti (pc := 8) F fl_X3_29 (by assumption) rfl dX3_sumOver_8 ?_
      refine g_icmp_ge (pc := 11) (tgt := 53) F dX3_sumOver_11 (by decide) (fun c11 => ?_) (fun c11 => ?_)
      · exact absurd c11 (by rw [hr.1, hn.2, hx]; exact nI_ge (by omega) (by omega))
      · refine g_iload (pc := 14) F dX3_sumOver_14 rfl ?_
        refine g_aload_n (pc := 16) F dX3_sumOver_16 rfl ?_
        refine g_getr (pc := 17) F fl_X3_11 (by assumption) rfl dX3_sumOver_17 ?_
        refine g_alenK (pc := 20) F (by assumption) (v := 6) (by decide) dX3_sumOver_20 ?_
        refine g_icmp_ge (pc := 21) (tgt := 53) F dX3_sumOver_21 (by decide) (fun c21 => ?_) (fun c21 => ?_)
        · exact absurd c21 (by rw [hx]; exact nI_ge (a := i) (b := 6) (by omega) (by decide))
        · refine g_iload_n (pc := 24) F dX3_sumOver_24 rfl ?_
          refine g_iconst (pc := 25) (v := 1) F dX3_sumOver_25 (by decide) ?_
          refine g_iload (pc := 26) F dX3_sumOver_26 rfl ?_
          refine g_ishl (pc := 28) F dX3_sumOver_28 ?_
          refine g_iand (pc := 29) F dX3_sumOver_29 ?_
          refine g_if_eq (pc := 30) (tgt := 47) F dX3_sumOver_30 (by decide) (fun c30 => ?_) (fun c30 => ?_)
          · refine g_iinc (pc := 47) F dX3_sumOver_47 rfl rfl (by decide) rfl ?_
            refine g_goto (pc := 50) (tgt := 5) F dX3_sumOver_50 (by decide) ?_
            refine G.sub [some (.ref (ad g h)), some (.int z), some (.int (nI q)), some (.int (sumW S z q (i + 1))), some (.int (x + Int32.ofInt 1))] ⟨rfl, rfl, rfl, ?_, rfl, trivial⟩ (ih (i + 1) _ (by omega) (by rw [hx]; exact nI_1 i))
            · show some (Value.int _) = some (Value.int (if isIn z i then _ else _))
              rw [if_neg (by rw [hx] at c30; exact fun e => e c30)]
          · refine g_iload_n (pc := 33) F dX3_sumOver_33 rfl ?_
            refine g_aload_n (pc := 34) F dX3_sumOver_34 rfl ?_
            refine g_getr (pc := 35) F fl_X3_11 (by assumption) rfl dX3_sumOver_35 ?_
            refine g_iload (pc := 38) F dX3_sumOver_38 rfl ?_
            refine g_aaldK (pc := 40) (q := i) (r := h + 3 + 4 * i) F hk1 hx (by omega) (by omega) dX3_sumOver_40 ?_
            refine g_iload_n (pc := 41) F dX3_sumOver_41 rfl ?_
            refine g_callV (pc := 42) (rf2 := 1) (rl2 := 20) F cs_X3_138 (by assumption) rfl (by decide) (by rfl) (by rfl) (Nat.le_of_ble_eq_true (by rfl)) (by decide) dX3_sumOver_42 (c_X0_tell _ g _ (h + 3 + 4 * i) hkc q hq) (fun v M2 hz => ?_)
            obtain ⟨rfl, h2⟩ := hz
            rw [h2]
            refine g_iadd (pc := 45) F dX3_sumOver_45 ?_
            refine g_istore_n (pc := 46) F dX3_sumOver_46 (by decide) rfl ?_
            refine g_iinc (pc := 47) F dX3_sumOver_47 rfl rfl (by decide) rfl ?_
            refine g_goto (pc := 50) (tgt := 5) F dX3_sumOver_50 (by decide) ?_
            refine G.sub [some (.ref (ad g h)), some (.int z), some (.int (nI q)), some (.int (sumW S z q (i + 1))), some (.int (x + Int32.ofInt 1))] ⟨rfl, rfl, rfl, ?_, rfl, trivial⟩ (ih (i + 1) _ (by omega) (by rw [hx]; exact nI_1 i))
            · show some (Value.int _) = some (Value.int (if isIn z i then _ else _))
              rw [if_pos (by rw [hx] at c30; exact c30), tellV_wv hC q hq]
  refine g_iconst (pc := 0) (v := 0) F dX3_sumOver_0 (by decide) ?_
  refine g_istore_n (pc := 1) F dX3_sumOver_1 (by decide) rfl ?_
  refine g_iconst (pc := 2) (v := 0) F dX3_sumOver_2 (by decide) ?_
  refine g_istore (pc := 3) F dX3_sumOver_3 (by decide) rfl ?_
  exact L (cn S) 0 _ (by omega) nI_0.symm

set_option maxHeartbeats 4000000 in
set_option maxRecDepth 100000 in
theorem c_X3_leastRest (l : Launch) (g : Gm) (M : Mem) (h : Nat) (hk : kd h = 3) (S : SV) (t : Nat) (hr : HR M h S) (hi : Inv S t) (z : Int32) : Cn l yX3_leastRest cX3_leastRest 5 (some .int) 0 0 g [.ref (ad g h), .int z] M (fun v M2 => v = some (.int (leastW S z (cn S))) ∧ M2 = M) := by
  refine Cn.intro (lv0 := [some (.ref (ad g h)), some (.int z), none, none, none]) 3 (by decide +kernel) (Nat.le_of_ble_eq_true rfl) rfl (fun X F r => ?_)
  obtain ⟨hk1, hk2, hkC, hkG⟩ := kd_hall hk
  have hn := hi.cn_le
  have hm := hi.gn_le
  have L : ∀ (n i : Nat) (x : Int32), i + n = cn S → x = nI i → G X g 5 M 5 [some (.ref (ad g h)), some (.int z), some (.int (leastW S z i)), some (.int x), none] [] := by
    intro n
    induction n with
    | zero =>
      intro i x hin hx
      obtain rfl : i = cn S := by omega
      refine g_iload_n (pc := 5) F dX3_leastRest_5 rfl ?_
      refine g_aload_n (pc := 6) F dX3_leastRest_6 rfl ?_
      refine g_geti (pc := 7) F fl_X3_29 (by assumption) rfl dX3_leastRest_7 ?_
      refine g_icmp_ge (pc := 10) (tgt := 77) F dX3_leastRest_10 (by decide) (fun c10 => ?_) (fun c10 => ?_)
      · refine g_iload_n (pc := 77) F dX3_leastRest_77 rfl ?_
        refine g_iret (pc := 78) F r dX3_leastRest_78 ?_
        exact ⟨rfl, rfl⟩
      · exact absurd (by rw [hr.1, hn.2, hx]; exact nI_le (by omega) (by omega)) c10
    | succ n ih =>
      intro i x hin hx
      have hC := hr.2.2.2.2.1 i (by omega)
      have hkc := hkC i (by omega)
      refine g_iload_n (pc := 5) F dX3_leastRest_5 rfl ?_
      refine g_aload_n (pc := 6) F dX3_leastRest_6 rfl ?_
      refine g_geti (pc := 7) F fl_X3_29 (by assumption) rfl dX3_leastRest_7 ?_
      refine g_icmp_ge (pc := 10) (tgt := 77) F dX3_leastRest_10 (by decide) (fun c10 => ?_) (fun c10 => ?_)
      · exact absurd c10 (by rw [hr.1, hn.2, hx]; exact nI_ge (by omega) (by omega))
      · refine g_iload_n (pc := 13) F dX3_leastRest_13 rfl ?_
        refine g_aload_n (pc := 14) F dX3_leastRest_14 rfl ?_
        refine g_getr (pc := 15) F fl_X3_11 (by assumption) rfl dX3_leastRest_15 ?_
        refine g_alenK (pc := 18) F (by assumption) (v := 6) (by decide) dX3_leastRest_18 ?_
        refine g_icmp_ge (pc := 19) (tgt := 77) F dX3_leastRest_19 (by decide) (fun c19 => ?_) (fun c19 => ?_)
        · exact absurd c19 (by rw [hx]; exact nI_ge (a := i) (b := 6) (by omega) (by decide))
        · refine g_iload_n (pc := 22) F dX3_leastRest_22 rfl ?_
          refine g_iconst (pc := 23) (v := 1) F dX3_leastRest_23 (by decide) ?_
          refine g_iload_n (pc := 24) F dX3_leastRest_24 rfl ?_
          refine g_ishl (pc := 25) F dX3_leastRest_25 ?_
          refine g_iand (pc := 26) F dX3_leastRest_26 ?_
          refine g_if_eq (pc := 27) (tgt := 34) F dX3_leastRest_27 (by decide) (fun c27 => ?_) (fun c27 => ?_)
          · refine g_iconst (pc := 34) (v := 0) F dX3_leastRest_34 (by decide) ?_
            refine g_istore (pc := 35) F dX3_leastRest_35 (by decide) rfl ?_
            refine g_iload (pc := 37) F dX3_leastRest_37 rfl ?_
            refine g_if_eq (pc := 39) (tgt := 71) F dX3_leastRest_39 (by decide) (fun c39 => ?_) (fun c39 => ?_)
            · refine g_iinc (pc := 71) F dX3_leastRest_71 rfl rfl (by decide) rfl ?_
              refine g_goto (pc := 74) (tgt := 5) F dX3_leastRest_74 (by decide) ?_
              refine G.sub [some (.ref (ad g h)), some (.int z), some (.int (leastW S z (i + 1))), some (.int (x + Int32.ofInt 1)), none] ⟨rfl, rfl, ?_, rfl, trivial⟩ (ih (i + 1) _ (by omega) (by rw [hx]; exact nI_1 i))
              · show some (Value.int _) = some (Value.int (if isIn z i ∧ _ then _ else _))
                rw [if_neg (fun e => e.1 (by rw [hx] at c27; exact c27))]
            · exact absurd rfl c39
          · refine g_iconst (pc := 30) (v := 1) F dX3_leastRest_30 (by decide) ?_
            refine g_goto (pc := 31) (tgt := 35) F dX3_leastRest_31 (by decide) ?_
            refine g_istore (pc := 35) F dX3_leastRest_35 (by decide) rfl ?_
            refine g_iload (pc := 37) F dX3_leastRest_37 rfl ?_
            refine g_if_eq (pc := 39) (tgt := 71) F dX3_leastRest_39 (by decide) (fun c39 => ?_) (fun c39 => ?_)
            · exact absurd c39 (by decide)
            · refine g_iload_n (pc := 42) F dX3_leastRest_42 rfl ?_
              refine g_ldc (pc := 43) F wk_X3_137 dX3_leastRest_43 ?_
              refine g_icmp_eq (pc := 45) (tgt := 61) F dX3_leastRest_45 (by decide) (fun c45 => ?_) (fun c45 => ?_)
              · refine g_aload_n (pc := 61) F dX3_leastRest_61 rfl ?_
                refine g_getr (pc := 62) F fl_X3_11 (by assumption) rfl dX3_leastRest_62 ?_
                refine g_iload_n (pc := 65) F dX3_leastRest_65 rfl ?_
                refine g_aaldK (pc := 66) (q := i) (r := h + 3 + 4 * i) F hk1 hx (by omega) (by omega) dX3_leastRest_66 ?_
                refine g_geti (pc := 67) F fl_X3_113 (by assumption) rfl dX3_leastRest_67 ?_
                refine g_istore_n (pc := 70) F dX3_leastRest_70 (by decide) rfl ?_
                refine g_iinc (pc := 71) F dX3_leastRest_71 rfl rfl (by decide) rfl ?_
                refine g_goto (pc := 74) (tgt := 5) F dX3_leastRest_74 (by decide) ?_
                refine G.sub [some (.ref (ad g h)), some (.int z), some (.int (leastW S z (i + 1))), some (.int (x + Int32.ofInt 1)), none] ⟨rfl, rfl, ?_, rfl, trivial⟩ (ih (i + 1) _ (by omega) (by rw [hx]; exact nI_1 i))
                · show some (Value.int _) = some (Value.int (if isIn z i ∧ _ then _ else _))
                  rw [if_pos ⟨by rw [hx] at c27; exact c27, Or.inl c45⟩, hC.2.2.2.2.1]
              · refine g_aload_n (pc := 48) F dX3_leastRest_48 rfl ?_
                refine g_getr (pc := 49) F fl_X3_11 (by assumption) rfl dX3_leastRest_49 ?_
                refine g_iload_n (pc := 52) F dX3_leastRest_52 rfl ?_
                refine g_aaldK (pc := 53) (q := i) (r := h + 3 + 4 * i) F hk1 hx (by omega) (by omega) dX3_leastRest_53 ?_
                refine g_geti (pc := 54) F fl_X3_113 (by assumption) rfl dX3_leastRest_54 ?_
                refine g_iload_n (pc := 57) F dX3_leastRest_57 rfl ?_
                refine g_icmp_ge (pc := 58) (tgt := 71) F dX3_leastRest_58 (by decide) (fun c58 => ?_) (fun c58 => ?_)
                · refine g_iinc (pc := 71) F dX3_leastRest_71 rfl rfl (by decide) rfl ?_
                  refine g_goto (pc := 74) (tgt := 5) F dX3_leastRest_74 (by decide) ?_
                  refine G.sub [some (.ref (ad g h)), some (.int z), some (.int (leastW S z (i + 1))), some (.int (x + Int32.ofInt 1)), none] ⟨rfl, rfl, ?_, rfl, trivial⟩ (ih (i + 1) _ (by omega) (by rw [hx]; exact nI_1 i))
                  · show some (Value.int _) = some (Value.int (if isIn z i ∧ _ then _ else _))
                    rw [hC.2.2.2.2.1] at c58
                    rw [if_neg (fun e => e.2.elim c45 (fun w => Int32.not_lt.mpr c58 w))]
                · refine g_aload_n (pc := 61) F dX3_leastRest_61 rfl ?_
                  refine g_getr (pc := 62) F fl_X3_11 (by assumption) rfl dX3_leastRest_62 ?_
                  refine g_iload_n (pc := 65) F dX3_leastRest_65 rfl ?_
                  refine g_aaldK (pc := 66) (q := i) (r := h + 3 + 4 * i) F hk1 hx (by omega) (by omega) dX3_leastRest_66 ?_
                  refine g_geti (pc := 67) F fl_X3_113 (by assumption) rfl dX3_leastRest_67 ?_
                  refine g_istore_n (pc := 70) F dX3_leastRest_70 (by decide) rfl ?_
                  refine g_iinc (pc := 71) F dX3_leastRest_71 rfl rfl (by decide) rfl ?_
                  refine g_goto (pc := 74) (tgt := 5) F dX3_leastRest_74 (by decide) ?_
                  refine G.sub [some (.ref (ad g h)), some (.int z), some (.int (leastW S z (i + 1))), some (.int (x + Int32.ofInt 1)), none] ⟨rfl, rfl, ?_, rfl, trivial⟩ (ih (i + 1) _ (by omega) (by rw [hx]; exact nI_1 i))
                  · show some (Value.int _) = some (Value.int (if isIn z i ∧ _ then _ else _))
                    rw [hC.2.2.2.2.1] at c58
                    rw [if_pos ⟨by rw [hx] at c27; exact c27, Or.inr (Int32.not_le.mp c58)⟩, hC.2.2.2.2.1]
  refine g_ldc (pc := 0) F wk_X3_137 dX3_leastRest_0 ?_
  refine g_istore_n (pc := 2) F dX3_leastRest_2 (by decide) rfl ?_
  refine g_iconst (pc := 3) (v := 0) F dX3_leastRest_3 (by decide) ?_
  refine g_istore_n (pc := 4) F dX3_leastRest_4 (by decide) rfl ?_
  exact L (cn S) 0 _ (by omega) nI_0.symm

set_option maxHeartbeats 4000000 in
set_option maxRecDepth 100000 in
theorem c_X3_clocksAhead (l : Launch) (g : Gm) (M : Mem) (h : Nat) (hk : kd h = 3) (S : SV) (t : Nat) (hr : HR M h S) (hi : Inv S t) (c : Nat) (hc : c < cn S) : Cn l yX3_clocksAhead cX3_clocksAhead 6 (some .int) 0 0 g [.ref (ad g h), .int (nI c), .int (restW S c)] M (fun v M2 => v = some (.int (aheadW S c (cn S))) ∧ M2 = M) := by
  refine Cn.intro (lv0 := [some (.ref (ad g h)), some (.int (nI c)), some (.int (restW S c)), none, none, none]) 3 (by decide +kernel) (Nat.le_of_ble_eq_true rfl) rfl (fun X F r => ?_)
  obtain ⟨hk1, hk2, hkC, hkG⟩ := kd_hall hk
  have hn := hi.cn_le
  have hm := hi.gn_le
  have L : ∀ (n i : Nat) (x : Int32), i + n = cn S → x = nI i → G X g 6 M 5 [some (.ref (ad g h)), some (.int (nI c)), some (.int (restW S c)), some (.int (aheadW S c i)), some (.int x), none] [] := by
    intro n
    induction n with
    | zero =>
      intro i x hin hx
      obtain rfl : i = cn S := by omega
      refine g_iload (pc := 5) F dX3_clocksAhead_5 rfl ?_
      refine g_aload_n (pc := 7) F dX3_clocksAhead_7 rfl ?_
      refine g_geti (pc := 8) F fl_X3_29 (by assumption) rfl dX3_clocksAhead_8 ?_
      refine g_icmp_ge (pc := 11) (tgt := 63) F dX3_clocksAhead_11 (by decide) (fun c11 => ?_) (fun c11 => ?_)
      · refine g_iload_n (pc := 63) F dX3_clocksAhead_63 rfl ?_
        refine g_iret (pc := 64) F r dX3_clocksAhead_64 ?_
        exact ⟨rfl, rfl⟩
      · exact absurd (by rw [hr.1, hn.2, hx]; exact nI_le (by omega) (by omega)) c11
    | succ n ih =>
      intro i x hin hx
      have hC := hr.2.2.2.2.1 i (by omega)
      have hkc := hkC i (by omega)
      refine g_iload (pc := 5) F dX3_clocksAhead_5 rfl ?_
      refine g_aload_n (pc := 7) F dX3_clocksAhead_7 rfl ?_
      refine g_geti (pc := 8) F fl_X3_29 (by assumption) rfl dX3_clocksAhead_8 ?_
      refine g_icmp_ge (pc := 11) (tgt := 63) F dX3_clocksAhead_11 (by decide) (fun c11 => ?_) (fun c11 => ?_)
      · exact absurd c11 (by rw [hr.1, hn.2, hx]; exact nI_ge (by omega) (by omega))
      · refine g_iload (pc := 14) F dX3_clocksAhead_14 rfl ?_
        refine g_aload_n (pc := 16) F dX3_clocksAhead_16 rfl ?_
        refine g_getr (pc := 17) F fl_X3_11 (by assumption) rfl dX3_clocksAhead_17 ?_
        refine g_alenK (pc := 20) F (by assumption) (v := 6) (by decide) dX3_clocksAhead_20 ?_
        refine g_icmp_ge (pc := 21) (tgt := 63) F dX3_clocksAhead_21 (by decide) (fun c21 => ?_) (fun c21 => ?_)
        · exact absurd c21 (by rw [hx]; exact nI_ge (a := i) (b := 6) (by omega) (by decide))
        · refine g_aload_n (pc := 24) F dX3_clocksAhead_24 rfl ?_
          refine g_getr (pc := 25) F fl_X3_11 (by assumption) rfl dX3_clocksAhead_25 ?_
          refine g_iload (pc := 28) F dX3_clocksAhead_28 rfl ?_
          refine g_aaldK (pc := 30) (q := i) (r := h + 3 + 4 * i) F hk1 hx (by omega) (by omega) dX3_clocksAhead_30 ?_
          refine g_geti (pc := 31) F fl_X3_113 (by assumption) rfl dX3_clocksAhead_31 ?_
          refine g_istore (pc := 34) F dX3_clocksAhead_34 (by decide) rfl ?_
          refine g_iload (pc := 36) F dX3_clocksAhead_36 rfl ?_
          refine g_iload_n (pc := 38) F dX3_clocksAhead_38 rfl ?_
          refine g_icmp_lt (pc := 39) (tgt := 54) F dX3_clocksAhead_39 (by decide) (fun c39 => ?_) (fun c39 => ?_)
          · refine g_iinc (pc := 54) F dX3_clocksAhead_54 rfl rfl (by decide) rfl ?_
            refine g_iinc (pc := 57) F dX3_clocksAhead_57 rfl rfl (by decide) rfl ?_
            refine g_goto (pc := 60) (tgt := 5) F dX3_clocksAhead_60 (by decide) ?_
            refine G.sub [some (.ref (ad g h)), some (.int (nI c)), some (.int (restW S c)), some (.int (aheadW S c (i + 1))), some (.int (x + Int32.ofInt 1)), none] ⟨rfl, rfl, rfl, ?_, rfl, trivial⟩ (ih (i + 1) _ (by omega) (by rw [hx]; exact nI_1 i))
            · show some (Value.int _) = some (Value.int (if restW S i < restW S c ∨ _ then _ else _))
              rw [hC.2.2.2.2.1] at c39
              rw [if_pos (Or.inl c39)]
              rfl
          · refine g_iload (pc := 42) F dX3_clocksAhead_42 rfl ?_
            refine g_iload_n (pc := 44) F dX3_clocksAhead_44 rfl ?_
            refine g_icmp_ne (pc := 45) (tgt := 57) F dX3_clocksAhead_45 (by decide) (fun c45 => ?_) (fun c45 => ?_)
            · refine g_iinc (pc := 57) F dX3_clocksAhead_57 rfl rfl (by decide) rfl ?_
              refine g_goto (pc := 60) (tgt := 5) F dX3_clocksAhead_60 (by decide) ?_
              refine G.sub [some (.ref (ad g h)), some (.int (nI c)), some (.int (restW S c)), some (.int (aheadW S c (i + 1))), some (.int (x + Int32.ofInt 1)), none] ⟨rfl, rfl, rfl, ?_, rfl, trivial⟩ (ih (i + 1) _ (by omega) (by rw [hx]; exact nI_1 i))
              · show some (Value.int _) = some (Value.int (if restW S i < restW S c ∨ _ then _ else _))
                rw [hC.2.2.2.2.1] at c39 c45
                rw [if_neg (fun e => e.elim c39 (fun w => c45 w.1))]
            · refine g_iload (pc := 48) F dX3_clocksAhead_48 rfl ?_
              refine g_iload_n (pc := 50) F dX3_clocksAhead_50 rfl ?_
              refine g_icmp_ge (pc := 51) (tgt := 57) F dX3_clocksAhead_51 (by decide) (fun c51 => ?_) (fun c51 => ?_)
              · refine g_iinc (pc := 57) F dX3_clocksAhead_57 rfl rfl (by decide) rfl ?_
                refine g_goto (pc := 60) (tgt := 5) F dX3_clocksAhead_60 (by decide) ?_
                refine G.sub [some (.ref (ad g h)), some (.int (nI c)), some (.int (restW S c)), some (.int (aheadW S c (i + 1))), some (.int (x + Int32.ofInt 1)), none] ⟨rfl, rfl, rfl, ?_, rfl, trivial⟩ (ih (i + 1) _ (by omega) (by rw [hx]; exact nI_1 i))
                · show some (Value.int _) = some (Value.int (if restW S i < restW S c ∨ _ then _ else _))
                  rw [hC.2.2.2.2.1] at c39 c45
                  rw [if_neg (fun e => e.elim c39 (fun w => by rw [hx] at c51; exact nI_ge w.2 (by omega) c51))]
              · refine g_iinc (pc := 54) F dX3_clocksAhead_54 rfl rfl (by decide) rfl ?_
                refine g_iinc (pc := 57) F dX3_clocksAhead_57 rfl rfl (by decide) rfl ?_
                refine g_goto (pc := 60) (tgt := 5) F dX3_clocksAhead_60 (by decide) ?_
                refine G.sub [some (.ref (ad g h)), some (.int (nI c)), some (.int (restW S c)), some (.int (aheadW S c (i + 1))), some (.int (x + Int32.ofInt 1)), none] ⟨rfl, rfl, rfl, ?_, rfl, trivial⟩ (ih (i + 1) _ (by omega) (by rw [hx]; exact nI_1 i))
                · show some (Value.int _) = some (Value.int (if restW S i < restW S c ∨ _ then _ else _))
                  rw [hC.2.2.2.2.1] at c39 c45
                  rw [if_pos (Or.inr ⟨c45, by rw [hx, nI_leI (by omega) (by omega)] at c51; omega⟩)]
                  rfl
  refine g_iconst (pc := 0) (v := 0) F dX3_clocksAhead_0 (by decide) ?_
  refine g_istore_n (pc := 1) F dX3_clocksAhead_1 (by decide) rfl ?_
  refine g_iconst (pc := 2) (v := 0) F dX3_clocksAhead_2 (by decide) ?_
  refine g_istore (pc := 3) F dX3_clocksAhead_3 (by decide) rfl ?_
  exact L (cn S) 0 _ (by omega) nI_0.symm

set_option maxHeartbeats 4000000 in
set_option maxRecDepth 100000 in
theorem c_X3_clockInPlace (l : Launch) (g : Gm) (M : Mem) (h : Nat) (hk : kd h = 3) (S : SV) (t : Nat) (hr : HR M h S) (hi : Inv S t) (p : Int32) : Cn l yX3_clockInPlace cX3_clockInPlace 3 (some .int) 1 25 g [.ref (ad g h), .int p] M (fun v M2 => v = some (.int (nextW S p (cn S))) ∧ M2 = M) := by
  refine Cn.intro (lv0 := [some (.ref (ad g h)), some (.int p), none]) 1 (by decide +kernel) (Nat.le_of_ble_eq_true rfl) rfl (fun X F r => ?_)
  obtain ⟨hk1, hk2, hkC, hkG⟩ := kd_hall hk
  have hn := hi.cn_le
  have hm := hi.gn_le
  have L : ∀ (n i : Nat) (x : Int32), i + n = cn S → x = nI i → nextW S p (cn S) = nextW S p n → G X g 3 M 2 [some (.ref (ad g h)), some (.int p), some (.int x)] [] := by
    intro n
    induction n with
    | zero =>
      intro i x hin hx hE
      obtain rfl : i = cn S := by omega
      refine g_iload_n (pc := 2) F dX3_clockInPlace_2 rfl ?_
      refine g_aload_n (pc := 3) F dX3_clockInPlace_3 rfl ?_
      refine g_geti (pc := 4) F fl_X3_29 (by assumption) rfl dX3_clockInPlace_4 ?_
      refine g_icmp_ge (pc := 7) (tgt := 45) F dX3_clockInPlace_7 (by decide) (fun c7 => ?_) (fun c7 => ?_)
      · refine g_ldc (pc := 45) F wk_X3_137 dX3_clockInPlace_45 ?_
        refine g_iret (pc := 47) F r dX3_clockInPlace_47 ?_
        have e0 : nextW S p (cn S) = nextW S p 0 := hE
        rw [e0]
        exact ⟨rfl, rfl⟩
      · exact absurd (by rw [hr.1, hn.2, hx]; exact nI_le (by omega) (by omega)) c7
    | succ n ih =>
      intro i x hin hx hE
      have hC := hr.2.2.2.2.1 i (by omega)
      have hkc := hkC i (by omega)
      refine g_iload_n (pc := 2) F dX3_clockInPlace_2 rfl ?_
      refine g_aload_n (pc := 3) F dX3_clockInPlace_3 rfl ?_
      refine g_geti (pc := 4) F fl_X3_29 (by assumption) rfl dX3_clockInPlace_4 ?_
      refine g_icmp_ge (pc := 7) (tgt := 45) F dX3_clockInPlace_7 (by decide) (fun c7 => ?_) (fun c7 => ?_)
      · exact absurd c7 (by rw [hr.1, hn.2, hx]; exact nI_ge (by omega) (by omega))
      · refine g_iload_n (pc := 10) F dX3_clockInPlace_10 rfl ?_
        refine g_aload_n (pc := 11) F dX3_clockInPlace_11 rfl ?_
        refine g_getr (pc := 12) F fl_X3_11 (by assumption) rfl dX3_clockInPlace_12 ?_
        refine g_alenK (pc := 15) F (by assumption) (v := 6) (by decide) dX3_clockInPlace_15 ?_
        refine g_icmp_ge (pc := 16) (tgt := 45) F dX3_clockInPlace_16 (by decide) (fun c16 => ?_) (fun c16 => ?_)
        · exact absurd c16 (by rw [hx]; exact nI_ge (a := i) (b := 6) (by omega) (by decide))
        · refine g_aload_n (pc := 19) F dX3_clockInPlace_19 rfl ?_
          refine g_iload_n (pc := 20) F dX3_clockInPlace_20 rfl ?_
          refine g_aload_n (pc := 21) F dX3_clockInPlace_21 rfl ?_
          refine g_getr (pc := 22) F fl_X3_11 (by assumption) rfl dX3_clockInPlace_22 ?_
          refine g_iload_n (pc := 25) F dX3_clockInPlace_25 rfl ?_
          refine g_aaldK (pc := 26) (q := i) (r := h + 3 + 4 * i) F hk1 hx (by omega) (by omega) dX3_clockInPlace_26 ?_
          refine g_geti (pc := 27) F fl_X3_113 (by assumption) rfl dX3_clockInPlace_27 ?_
          refine g_stk (st' := [.int (restW S i), .int (nI i), .ref (ad g h)]) (by rw [hC.2.2.2.2.1, hx]) ?_
          refine g_callV (pc := 30) (rf2 := 0) (rl2 := 0) F cs_X3_141 (by assumption) rfl (by decide) (by rfl) (by rfl) (Nat.le_of_ble_eq_true (by rfl)) (by decide) dX3_clockInPlace_30 (c_X3_clocksAhead _ g _ h hk S t hr hi i (by omega)) (fun v M2 hz => ?_)
          obtain ⟨rfl, h2⟩ := hz
          rw [h2]
          refine g_iload_n (pc := 33) F dX3_clockInPlace_33 rfl ?_
          refine g_icmp_ne (pc := 34) (tgt := 39) F dX3_clockInPlace_34 (by decide) (fun c34 => ?_) (fun c34 => ?_)
          · refine g_iinc (pc := 39) F dX3_clockInPlace_39 rfl rfl (by decide) rfl ?_
            refine g_goto (pc := 42) (tgt := 2) F dX3_clockInPlace_42 (by decide) ?_
            refine G.sub [some (.ref (ad g h)), some (.int p), some (.int (x + Int32.ofInt 1))] ⟨rfl, rfl, rfl, trivial⟩ (ih (i + 1) _ (by omega) (by rw [hx]; exact nI_1 i) ?_)
            rw [hE]
            show (if aheadW S (cn S - (n + 1)) (cn S) = p then nI (cn S - (n + 1)) else nextW S p n) = nextW S p n
            rw [show cn S - (n + 1) = i by omega, if_neg c34]
          · refine g_iload_n (pc := 37) F dX3_clockInPlace_37 rfl ?_
            refine g_iret (pc := 38) F r dX3_clockInPlace_38 ?_
            rw [hE, show nextW S p (n + 1) = nI i by
              show (if aheadW S (cn S - (n + 1)) (cn S) = p then nI (cn S - (n + 1)) else nextW S p n) = nI i
              rw [show cn S - (n + 1) = i by omega, if_pos c34]]
            exact ⟨by rw [hx], rfl⟩
  refine g_iconst (pc := 0) (v := 0) F dX3_clockInPlace_0 (by decide) ?_
  refine g_istore_n (pc := 1) F dX3_clockInPlace_1 (by decide) rfl ?_
  exact L (cn S) 0 _ (by omega) nI_0.symm rfl

set_option maxHeartbeats 4000000 in
set_option maxRecDepth 100000 in
theorem c_X3_aboutToTell (l : Launch) (g : Gm) (M : Mem) (h : Nat) (hk : kd h = 3) (S : SV) (t : Nat) (hr : HR M h S) (hi : Inv S t) : Cn l yX3_aboutToTell cX3_aboutToTell 3 (some .int) 0 0 g [.ref (ad g h)] M (fun v M2 => v = some (.int (aboutW S (cn S))) ∧ M2 = M) := by
  refine Cn.intro (lv0 := [some (.ref (ad g h)), none, none]) 2 (by decide +kernel) (Nat.le_of_ble_eq_true rfl) rfl (fun X F r => ?_)
  obtain ⟨hk1, hk2, hkC, hkG⟩ := kd_hall hk
  have hn := hi.cn_le
  have hm := hi.gn_le
  have L : ∀ (n i : Nat) (x : Int32), i + n = cn S → x = nI i → G X g 3 M 4 [some (.ref (ad g h)), some (.int (aboutW S i)), some (.int x)] [] := by
    intro n
    induction n with
    | zero =>
      intro i x hin hx
      obtain rfl : i = cn S := by omega
      refine g_iload_n (pc := 4) F dX3_aboutToTell_4 rfl ?_
      refine g_aload_n (pc := 5) F dX3_aboutToTell_5 rfl ?_
      refine g_geti (pc := 6) F fl_X3_29 (by assumption) rfl dX3_aboutToTell_6 ?_
      refine g_icmp_ge (pc := 9) (tgt := 46) F dX3_aboutToTell_9 (by decide) (fun c9 => ?_) (fun c9 => ?_)
      · refine g_iload_n (pc := 46) F dX3_aboutToTell_46 rfl ?_
        refine g_iret (pc := 47) F r dX3_aboutToTell_47 ?_
        exact ⟨rfl, rfl⟩
      · exact absurd (by rw [hr.1, hn.2, hx]; exact nI_le (by omega) (by omega)) c9
    | succ n ih =>
      intro i x hin hx
      have hC := hr.2.2.2.2.1 i (by omega)
      have hkc := hkC i (by omega)
      refine g_iload_n (pc := 4) F dX3_aboutToTell_4 rfl ?_
      refine g_aload_n (pc := 5) F dX3_aboutToTell_5 rfl ?_
      refine g_geti (pc := 6) F fl_X3_29 (by assumption) rfl dX3_aboutToTell_6 ?_
      refine g_icmp_ge (pc := 9) (tgt := 46) F dX3_aboutToTell_9 (by decide) (fun c9 => ?_) (fun c9 => ?_)
      · exact absurd c9 (by rw [hr.1, hn.2, hx]; exact nI_ge (by omega) (by omega))
      · refine g_iload_n (pc := 12) F dX3_aboutToTell_12 rfl ?_
        refine g_aload_n (pc := 13) F dX3_aboutToTell_13 rfl ?_
        refine g_getr (pc := 14) F fl_X3_11 (by assumption) rfl dX3_aboutToTell_14 ?_
        refine g_alenK (pc := 17) F (by assumption) (v := 6) (by decide) dX3_aboutToTell_17 ?_
        refine g_icmp_ge (pc := 18) (tgt := 46) F dX3_aboutToTell_18 (by decide) (fun c18 => ?_) (fun c18 => ?_)
        · exact absurd c18 (by rw [hx]; exact nI_ge (a := i) (b := 6) (by omega) (by decide))
        · refine g_aload_n (pc := 21) F dX3_aboutToTell_21 rfl ?_
          refine g_getr (pc := 22) F fl_X3_11 (by assumption) rfl dX3_aboutToTell_22 ?_
          refine g_iload_n (pc := 25) F dX3_aboutToTell_25 rfl ?_
          refine g_aaldK (pc := 26) (q := i) (r := h + 3 + 4 * i) F hk1 hx (by omega) (by omega) dX3_aboutToTell_26 ?_
          refine g_geti (pc := 27) F fl_X3_113 (by assumption) rfl dX3_aboutToTell_27 ?_
          refine g_iconst (pc := 30) (v := 1) F dX3_aboutToTell_30 (by decide) ?_
          refine g_icmp_ne (pc := 31) (tgt := 40) F dX3_aboutToTell_31 (by decide) (fun c31 => ?_) (fun c31 => ?_)
          · refine g_iinc (pc := 40) F dX3_aboutToTell_40 rfl rfl (by decide) rfl ?_
            refine g_goto (pc := 43) (tgt := 4) F dX3_aboutToTell_43 (by decide) ?_
            refine G.sub [some (.ref (ad g h)), some (.int (aboutW S (i + 1))), some (.int (x + Int32.ofInt 1))] ⟨rfl, ?_, rfl, trivial⟩ (ih (i + 1) _ (by omega) (by rw [hx]; exact nI_1 i))
            · show some (Value.int _) = some (Value.int (if restW S i = 1 then _ else _))
              rw [hC.2.2.2.2.1] at c31
              rw [if_neg c31]
          · refine g_iload_n (pc := 34) F dX3_aboutToTell_34 rfl ?_
            refine g_iconst (pc := 35) (v := 1) F dX3_aboutToTell_35 (by decide) ?_
            refine g_iload_n (pc := 36) F dX3_aboutToTell_36 rfl ?_
            refine g_ishl (pc := 37) F dX3_aboutToTell_37 ?_
            refine g_ior (pc := 38) F dX3_aboutToTell_38 ?_
            refine g_istore_n (pc := 39) F dX3_aboutToTell_39 (by decide) rfl ?_
            refine g_iinc (pc := 40) F dX3_aboutToTell_40 rfl rfl (by decide) rfl ?_
            refine g_goto (pc := 43) (tgt := 4) F dX3_aboutToTell_43 (by decide) ?_
            refine G.sub [some (.ref (ad g h)), some (.int (aboutW S (i + 1))), some (.int (x + Int32.ofInt 1))] ⟨rfl, ?_, rfl, trivial⟩ (ih (i + 1) _ (by omega) (by rw [hx]; exact nI_1 i))
            · show some (Value.int _) = some (Value.int (if restW S i = 1 then _ else _))
              rw [hC.2.2.2.2.1] at c31
              rw [if_pos c31, hx]
  refine g_iconst (pc := 0) (v := 0) F dX3_aboutToTell_0 (by decide) ?_
  refine g_istore_n (pc := 1) F dX3_aboutToTell_1 (by decide) rfl ?_
  refine g_iconst (pc := 2) (v := 0) F dX3_aboutToTell_2 (by decide) ?_
  refine g_istore_n (pc := 3) F dX3_aboutToTell_3 (by decide) rfl ?_
  exact L (cn S) 0 _ (by omega) nI_0.symm

theorem wc_mathmax : Cond.code Lib.Math.max.name Lib.Math.max.code 2 (some .int) ∈ lw_ws := ws_mem 543 (by decide +kernel) rfl
theorem g_mmax {X : XT} {g : Gm} {cc : ByteArray} {nL : Nat} {own : String} {rf rl : Nat} {M : Mem} {pc : Nat} {lv : List (Option Value)} {st : List Value} (F : FX X g cc nL own rf rl) {idx : Nat} {x y : Int32} (w : Cond.methodLink own idx Lib.Math.max.name ∈ lw_ws ∧ Cond.static Lib.Math.max.name ∈ lw_ws ∧ Cond.initialized "java/lang/Math" ∈ lw_ws) (hfr : 1 ≤ rf) (hrl2 : (st.map fun v => v.category).sum + 13 ≤ rl) (hd : decode cc pc = .ok (.invokestatic idx, 3)) (kk : G X g nL M (pc + 3) lv (.int (if x < y then y else x) :: st)) : G X g nL M pc lv (.int y :: .int x :: st) := by
  obtain ⟨p, l, e, R, s, m, args, below, meth, c0, cells, slots, Q⟩ := X
  obtain ⟨⟨hx, hb, hml, hown, hts⟩, hW, hrf, hrl, hcl, hsl, hgb⟩ := F
  intro H locs ls hP hS hL
  exact va_mmax hx hb (hml.trans hL.1.symm) hown (hts _ w.1) (hts _ w.2.1) (hts _ w.2.2) (hts _ wc_mathmax) (by rw [hrf]; exact hfr) (by rw [hrl]; exact hrl2) hcl hsl hd (kk H locs ls hP hS hL)
set_option maxHeartbeats 4000000 in
set_option maxRecDepth 100000 in
theorem c_X3_greatestAge (l : Launch) (g : Gm) (M : Mem) (h : Nat) (hk : kd h = 3) (S : SV) (t : Nat) (hr : HR M h S) (hi : Inv S t) : Cn l yX3_greatestAge cX3_greatestAge 3 (some .int) 1 30 g [.ref (ad g h)] M (fun v M2 => v = some (.int (oldestW S (cn S))) ∧ M2 = M) := by
  refine Cn.intro (lv0 := [some (.ref (ad g h)), none, none]) 2 (by decide +kernel) (Nat.le_of_ble_eq_true rfl) rfl (fun X F r => ?_)
  obtain ⟨hk1, hk2, hkC, hkG⟩ := kd_hall hk
  have hn := hi.cn_le
  have hm := hi.gn_le
  have L : ∀ (n i : Nat) (x : Int32), i + n = cn S → x = nI i → G X g 3 M 5 [some (.ref (ad g h)), some (.int (oldestW S i)), some (.int x)] [] := by
    intro n
    induction n with
    | zero =>
      intro i x hin hx
      obtain rfl : i = cn S := by omega
      refine g_iload_n (pc := 5) F dX3_greatestAge_5 rfl ?_
      refine g_aload_n (pc := 6) F dX3_greatestAge_6 rfl ?_
      refine g_geti (pc := 7) F fl_X3_29 (by assumption) rfl dX3_greatestAge_7 ?_
      refine g_icmp_ge (pc := 10) (tgt := 42) F dX3_greatestAge_10 (by decide) (fun c10 => ?_) (fun c10 => ?_)
      · refine g_iload_n (pc := 42) F dX3_greatestAge_42 rfl ?_
        refine g_iret (pc := 43) F r dX3_greatestAge_43 ?_
        exact ⟨rfl, rfl⟩
      · exact absurd (by rw [hr.1, hn.2, hx]; exact nI_le (by omega) (by omega)) c10
    | succ n ih =>
      intro i x hin hx
      have hC := hr.2.2.2.2.1 i (by omega)
      have hkc := hkC i (by omega)
      refine g_iload_n (pc := 5) F dX3_greatestAge_5 rfl ?_
      refine g_aload_n (pc := 6) F dX3_greatestAge_6 rfl ?_
      refine g_geti (pc := 7) F fl_X3_29 (by assumption) rfl dX3_greatestAge_7 ?_
      refine g_icmp_ge (pc := 10) (tgt := 42) F dX3_greatestAge_10 (by decide) (fun c10 => ?_) (fun c10 => ?_)
      · exact absurd c10 (by rw [hr.1, hn.2, hx]; exact nI_ge (by omega) (by omega))
      · refine g_iload_n (pc := 13) F dX3_greatestAge_13 rfl ?_
        refine g_aload_n (pc := 14) F dX3_greatestAge_14 rfl ?_
        refine g_getr (pc := 15) F fl_X3_11 (by assumption) rfl dX3_greatestAge_15 ?_
        refine g_alenK (pc := 18) F (by assumption) (v := 6) (by decide) dX3_greatestAge_18 ?_
        refine g_icmp_ge (pc := 19) (tgt := 42) F dX3_greatestAge_19 (by decide) (fun c19 => ?_) (fun c19 => ?_)
        · exact absurd c19 (by rw [hx]; exact nI_ge (a := i) (b := 6) (by omega) (by decide))
        · refine g_iload_n (pc := 22) F dX3_greatestAge_22 rfl ?_
          refine g_aload_n (pc := 23) F dX3_greatestAge_23 rfl ?_
          refine g_getr (pc := 24) F fl_X3_11 (by assumption) rfl dX3_greatestAge_24 ?_
          refine g_iload_n (pc := 27) F dX3_greatestAge_27 rfl ?_
          refine g_aaldK (pc := 28) (q := i) (r := h + 3 + 4 * i) F hk1 hx (by omega) (by omega) dX3_greatestAge_28 ?_
          refine g_callV (pc := 29) (rf2 := 0) (rl2 := 0) F cs_X3_149 (by assumption) rfl (by decide) (by rfl) (by rfl) (Nat.le_of_ble_eq_true (by rfl)) (by decide) dX3_greatestAge_29 (c_X0_age _ g _ (h + 3 + 4 * i) hkc) (fun v M2 hz => ?_)
          obtain ⟨rfl, h2⟩ := hz
          rw [h2]
          refine g_mmax (pc := 32) F ⟨wl_X3_152, wt_J9_max_7cf53, wz_J9⟩ (by decide) (Nat.le_of_ble_eq_true (by rfl)) dX3_greatestAge_32 ?_
          refine g_istore_n (pc := 35) F dX3_greatestAge_35 (by decide) rfl ?_
          refine g_iinc (pc := 36) F dX3_greatestAge_36 rfl rfl (by decide) rfl ?_
          refine g_goto (pc := 39) (tgt := 5) F dX3_greatestAge_39 (by decide) ?_
          refine G.sub [some (.ref (ad g h)), some (.int (oldestW S (i + 1))), some (.int (x + Int32.ofInt 1))] ⟨rfl, ?_, rfl, trivial⟩ (ih (i + 1) _ (by omega) (by rw [hx]; exact nI_1 i))
          · show some (Value.int (if _ then _ else _)) = some (Value.int (if oldestW S i < cw S i 7 then _ else _))
            rw [show M (h + 3 + 4 * i) 3 - M (h + 3 + 4 * i) 4 = cw S i 7 by rw [hC.2.2.2.1, hC.2.2.2.2.1, i_sub_sub]]
  refine g_ldc (pc := 0) F wk_X3_137 dX3_greatestAge_0 ?_
  refine g_istore_n (pc := 2) F dX3_greatestAge_2 (by decide) rfl ?_
  refine g_iconst (pc := 3) (v := 0) F dX3_greatestAge_3 (by decide) ?_
  refine g_istore_n (pc := 4) F dX3_greatestAge_4 (by decide) rfl ?_
  exact L (cn S) 0 _ (by omega) nI_0.symm
end
section
/-! the text, and its orders -/
/-- the text's cells: tn signs, tx -/
def TR (M : Mem) (tx : Nat → Int32) (tn : Nat) : Prop := tn ≤ 60 ∧ M 220 1 = nI tn ∧ ∀ j, j < tn → M 221 j = tx j
/-- every sign is 32 to 126 -/
def TI (tx : Nat → Int32) (tn : Nat) : Prop := ∀ j, j < tn → ∃ c, tx j = nI c ∧ 32 ≤ c ∧ c ≤ 126
def sgn (tx : Nat → Int32) (tn k : Nat) : Int32 := if k < tn then tx k else 0
theorem sgn_nI {tx : Nat → Int32} {tn : Nat} (h : TI tx tn) (k : Nat) : ∃ c, sgn tx tn k = nI c ∧ c ≤ 126 := by
  unfold sgn
  split
  · next hk =>
    obtain ⟨c, h1, -, h2⟩ := h k hk
    exact ⟨c, h1, h2⟩
  · exact ⟨0, nI0, by decide⟩
theorem nar_char : ∀ c, c < 127 → narrow .char (.int (nI c)) = .int (nI c) := by decide +kernel
theorem TR.row {M M2 : Mem} {tx : Nat → Int32} {tn : Nat} (h : TR M tx tn) (e0 : M2 220 = M 220) (e1 : M2 221 = M 221) : TR M2 tx tn := ⟨h.1, by rw [e0]; exact h.2.1, fun j hj => by rw [e1]; exact h.2.2 j hj⟩
abbrev digP (c : Int32) : Prop := 48 ≤ c ∧ c ≤ 57
def dgs (s : Nat → Int32) (p : Nat) : Nat := if digP (s p) then (if digP (s (p + 1)) then (if digP (s (p + 2)) then 3 else 2) else 1) else 0
def nv (s : Nat → Int32) (p : Nat) : Nat → Int32
  | 0 => 0
  | d + 1 => nv s p d * 10 + (s (p + d) - 48)
theorem dgs_eq {s : Nat → Int32} {p j : Nat} (hj : j ≤ 3) (h1 : ∀ i, i < j → digP (s (p + i))) (h2 : j = 3 ∨ ¬ digP (s (p + j))) : dgs s p = j := by
  unfold dgs
  match j, hj with
  | 0, _ =>
    have a0 : ¬ digP (s p) := h2.elim (fun e => absurd e (by decide)) id
    rw [if_neg a0]
  | 1, _ =>
    have a0 : digP (s p) := h1 0 (by decide)
    have a1 : ¬ digP (s (p + 1)) := h2.elim (fun e => absurd e (by decide)) id
    rw [if_pos a0, if_neg a1]
  | 2, _ =>
    have a0 : digP (s p) := h1 0 (by decide)
    have a1 : digP (s (p + 1)) := h1 1 (by decide)
    have a2 : ¬ digP (s (p + 2)) := h2.elim (fun e => absurd e (by decide)) id
    rw [if_pos a0, if_pos a1, if_neg a2]
  | 3, _ =>
    have a0 : digP (s p) := h1 0 (by decide)
    have a1 : digP (s (p + 1)) := h1 1 (by decide)
    have a2 : digP (s (p + 2)) := h1 2 (by decide)
    rw [if_pos a0, if_pos a1, if_pos a2]
theorem dgs_le (s : Nat → Int32) (p : Nat) : dgs s p ≤ 3 := by
  unfold dgs
  repeat' split
  all_goals omega
theorem dgs_dig {s : Nat → Int32} {p : Nat} : ∀ i, i < dgs s p → digP (s (p + i)) := by
  intro i hi
  unfold dgs at hi
  by_cases a : digP (s p)
  · rw [if_pos a] at hi
    by_cases b : digP (s (p + 1))
    · rw [if_pos b] at hi
      by_cases c : digP (s (p + 2))
      · rw [if_pos c] at hi
        match i, hi with
        | 0, _ => exact a
        | 1, _ => exact b
        | 2, _ => exact c
      · rw [if_neg c] at hi
        match i, hi with
        | 0, _ => exact a
        | 1, _ => exact b
    · rw [if_neg b] at hi
      match i, hi with
      | 0, _ => exact a
  · rw [if_neg a] at hi
    exact absurd hi (Nat.not_lt_zero i)
theorem sgn_dig {tx : Nat → Int32} {tn k : Nat} (h : digP (sgn tx tn k)) : k < tn := by
  by_cases hk : k < tn
  · exact hk
  · unfold sgn at h
    rw [if_neg hk] at h
    exact absurd h.1 (by decide)
theorem dgs_in {tx : Nat → Int32} {tn p : Nat} (hp : p ≤ tn) : p + dgs (sgn tx tn) p ≤ tn := by
  rcases Nat.eq_zero_or_pos (dgs (sgn tx tn) p) with h | h
  · omega
  · have := sgn_dig (dgs_dig (s := sgn tx tn) (p := p) (dgs (sgn tx tn) p - 1) (by omega))
    omega
/-- how many numbers stand behind a letter -/
def wants (c : Int32) : Nat := if c = 99 then 5 else if c = 106 then 2 else if c = 112 then 1 else if c = 116 then 1 else if c = 119 then 1 else 0
theorem kd220 : kd 220 = 6 := by decide
theorem kd221 : kd 221 = 14 := by decide
theorem kd222 : kd 222 = 5 := by decide
theorem kd223 : kd 223 = 10 := by decide
set_option maxHeartbeats 4000000 in
set_option maxRecDepth 100000 in
theorem c_X6_signAt (l : Launch) (g : Gm) (M : Mem) (tx : Nat → Int32) (tn : Nat) (hT : TR M tx tn) (hI : TI tx tn) (k : Nat) (hk0 : k < 1000) : Cn l yX6_signAt cX6_signAt 2 (some .char) 0 0 g [.ref (ad g 220), .int (nI k)] M (fun v M2 => v = some (.int (sgn tx tn k)) ∧ M2 = M) := by
  refine Cn.intro (lv0 := [some (.ref (ad g 220)), some (.int (nI k))]) 0 (by decide +kernel) (Nat.le_of_ble_eq_true rfl) rfl (fun X F r => ?_)
  have k220 := kd220
  have k221 := kd221
  have k222 := kd222
  have k223 := kd223
  refine g_iload_n (pc := 0) F dX6_signAt_0 rfl ?_
  refine g_if_lt (pc := 1) (tgt := 30) F dX6_signAt_1 (by decide) (fun c1 => ?_) (fun c1 => ?_)
  · exact absurd c1 (nI_pos (by omega))
  · refine g_iload_n (pc := 4) F dX6_signAt_4 rfl ?_
    refine g_aload_n (pc := 5) F dX6_signAt_5 rfl ?_
    refine g_geti (pc := 6) F fl_X6_15 (by assumption) rfl dX6_signAt_6 ?_
    refine g_icmp_ge (pc := 9) (tgt := 30) F dX6_signAt_9 (by decide) (fun c9 => ?_) (fun c9 => ?_)
    · rw [hT.2.1] at c9
      have hk : ¬ k < tn := fun e => nI_ge e (by have := hT.1; omega) c9
      refine g_iconst (pc := 30) (v := 0) F dX6_signAt_30 (by decide) ?_
      have e : sgn tx tn k = 0 := if_neg hk
      exact g_zret (pc := 31) F (by decide) r dX6_signAt_31 ⟨by rw [e], rfl⟩
    · rw [hT.2.1] at c9
      have hk : k < tn := (nI_ltI (by omega) (by have := hT.1; omega)).mp (Int32.not_le.mp c9)
      refine g_iload_n (pc := 12) F dX6_signAt_12 rfl ?_
      refine g_aload_n (pc := 13) F dX6_signAt_13 rfl ?_
      refine g_getr (pc := 14) F fl_X6_9 (by assumption) rfl dX6_signAt_14 ?_
      refine g_alenC (pc := 17) F (by assumption) (v := 60) (by decide) dX6_signAt_17 ?_
      refine g_icmp_ge (pc := 18) (tgt := 30) F dX6_signAt_18 (by decide) (fun c18 => ?_) (fun c18 => ?_)
      · exact absurd c18 (nI_ge (a := k) (b := 60) (by have := hT.1; omega) (by decide))
      · refine g_aload_n (pc := 21) F dX6_signAt_21 rfl ?_
        refine g_getr (pc := 22) F fl_X6_9 (by assumption) rfl dX6_signAt_22 ?_
        refine g_iload_n (pc := 25) F dX6_signAt_25 rfl ?_
        refine g_cald (pc := 26) (q := k) F k221 rfl (by have := hT.1; omega) dX6_signAt_26 ?_
        refine g_goto (pc := 27) (tgt := 31) F dX6_signAt_27 (by decide) ?_
        have e : sgn tx tn k = M 221 k := (if_pos hk).trans (hT.2.2 k hk).symm
        obtain ⟨cc, e1, e2⟩ := sgn_nI hI k
        rw [e] at e1
        exact g_zret (pc := 31) F (by rw [e1]; exact nar_char cc (by omega)) r dX6_signAt_31 ⟨by rw [e], rfl⟩

set_option maxHeartbeats 4000000 in
set_option maxRecDepth 100000 in
theorem c_X5_isDigit (l : Launch) (g : Gm) (M : Mem) (x : Int32) : Cn l yX5_isDigit cX5_isDigit 1 (some .boolean) 0 0 g [.int x] M (fun v M2 => v = some (.int (cb (digP x))) ∧ M2 = M) := by
  refine Cn.intro (lv0 := [some (.int x)]) 0 (by decide +kernel) (Nat.le_of_ble_eq_true rfl) rfl (fun X F r => ?_)
  refine g_iload_n (pc := 0) F dX5_isDigit_0 rfl ?_
  refine g_bipush (pc := 1) (v := 48) F dX5_isDigit_1 (by decide) ?_
  refine g_icmp_lt (pc := 3) (tgt := 16) F dX5_isDigit_3 (by decide) (fun c3 => ?_) (fun c3 => ?_)
  · refine g_iconst (pc := 16) (v := 0) F dX5_isDigit_16 (by decide) ?_
    refine g_zret (pc := 17) F (by decide) r dX5_isDigit_17 ?_
    exact ⟨congrArg (fun z => some (Value.int z)) (cb_f (fun e => Int32.not_lt.mpr e.1 c3)).symm, rfl⟩
  · refine g_iload_n (pc := 6) F dX5_isDigit_6 rfl ?_
    refine g_bipush (pc := 7) (v := 57) F dX5_isDigit_7 (by decide) ?_
    refine g_icmp_gt (pc := 9) (tgt := 16) F dX5_isDigit_9 (by decide) (fun c9 => ?_) (fun c9 => ?_)
    · refine g_iconst (pc := 16) (v := 0) F dX5_isDigit_16 (by decide) ?_
      refine g_zret (pc := 17) F (by decide) r dX5_isDigit_17 ?_
      exact ⟨congrArg (fun z => some (Value.int z)) (cb_f (fun e => Int32.not_lt.mpr e.2 c9)).symm, rfl⟩
    · refine g_iconst (pc := 12) (v := 1) F dX5_isDigit_12 (by decide) ?_
      refine g_goto (pc := 13) (tgt := 17) F dX5_isDigit_13 (by decide) ?_
      refine g_zret (pc := 17) F (by decide) r dX5_isDigit_17 ?_
      exact ⟨congrArg (fun z => some (Value.int z)) (cb_t ⟨Int32.not_lt.mp c3, Int32.not_lt.mp c9⟩).symm, rfl⟩

/-- a switch over whole numbers, by what the number is -/
theorem osw_hit {x k : Int32} {a o d : Int} {r : List (Int × Int)} (h : x = k) (hk : k.toInt = a) : Op.lookupswitch.offset ((a, o) :: r) d x.toInt = o := by
  rw [Op.lookupswitch.offset_cons, if_pos]
  rw [h, hk]
set_option maxHeartbeats 4000000 in
set_option maxRecDepth 100000 in
theorem c_X5_numbersBehind (l : Launch) (g : Gm) (M : Mem) (x : Int32) : Cn l yX5_numbersBehind cX5_numbersBehind 1 (some .int) 0 0 g [.int x] M (fun v M2 => v = some (.int (nI (wants x))) ∧ M2 = M) := by
  refine Cn.intro (lv0 := [some (.int x)]) 0 (by decide +kernel) (Nat.le_of_ble_eq_true rfl) rfl (fun X F r => ?_)
  refine g_iload_n (pc := 0) F dX5_numbersBehind_0 rfl ?_
  by_cases n99 : x = 99
  · refine g_lookup (pc := 1) (off := 51) (tgt := 52) F dX5_numbersBehind_1 (by decide) (by exact osw_hit n99 rfl) (by decide) ?_
    refine g_iconst (pc := 52) (v := 5) F dX5_numbersBehind_52 (by decide) ?_
    refine g_iret (pc := 53) F r dX5_numbersBehind_53 ?_
    refine ⟨?_, rfl⟩
    unfold wants
    rw [if_pos n99]
    rfl
  by_cases n106 : x = 106
  · refine g_lookup (pc := 1) (off := 53) (tgt := 54) F dX5_numbersBehind_1 (by decide) (by exact (lv_osw n99 rfl).trans (osw_hit n106 rfl)) (by decide) ?_
    refine g_iconst (pc := 54) (v := 2) F dX5_numbersBehind_54 (by decide) ?_
    refine g_iret (pc := 55) F r dX5_numbersBehind_55 ?_
    refine ⟨?_, rfl⟩
    unfold wants
    rw [if_neg n99, if_pos n106]
    rfl
  by_cases n112 : x = 112
  · refine g_lookup (pc := 1) (off := 55) (tgt := 56) F dX5_numbersBehind_1 (by decide) (by exact (lv_osw n99 rfl).trans ((lv_osw n106 rfl).trans (osw_hit n112 rfl))) (by decide) ?_
    refine g_iconst (pc := 56) (v := 1) F dX5_numbersBehind_56 (by decide) ?_
    refine g_iret (pc := 57) F r dX5_numbersBehind_57 ?_
    refine ⟨?_, rfl⟩
    unfold wants
    rw [if_neg n99, if_neg n106, if_pos n112]
    rfl
  by_cases n116 : x = 116
  · refine g_lookup (pc := 1) (off := 55) (tgt := 56) F dX5_numbersBehind_1 (by decide) (by exact (lv_osw n99 rfl).trans ((lv_osw n106 rfl).trans ((lv_osw n112 rfl).trans (osw_hit n116 rfl)))) (by decide) ?_
    refine g_iconst (pc := 56) (v := 1) F dX5_numbersBehind_56 (by decide) ?_
    refine g_iret (pc := 57) F r dX5_numbersBehind_57 ?_
    refine ⟨?_, rfl⟩
    unfold wants
    rw [if_neg n99, if_neg n106, if_neg n112, if_pos n116]
    rfl
  by_cases n119 : x = 119
  · refine g_lookup (pc := 1) (off := 55) (tgt := 56) F dX5_numbersBehind_1 (by decide) (by exact (lv_osw n99 rfl).trans ((lv_osw n106 rfl).trans ((lv_osw n112 rfl).trans ((lv_osw n116 rfl).trans (osw_hit n119 rfl))))) (by decide) ?_
    refine g_iconst (pc := 56) (v := 1) F dX5_numbersBehind_56 (by decide) ?_
    refine g_iret (pc := 57) F r dX5_numbersBehind_57 ?_
    refine ⟨?_, rfl⟩
    unfold wants
    rw [if_neg n99, if_neg n106, if_neg n112, if_neg n116, if_pos n119]
    rfl
  refine g_lookup (pc := 1) (off := 57) (tgt := 58) F dX5_numbersBehind_1 (by decide) (by exact (lv_osw n99 rfl).trans ((lv_osw n106 rfl).trans ((lv_osw n112 rfl).trans ((lv_osw n116 rfl).trans ((lv_osw n119 rfl).trans (rfl)))))) (by decide) ?_
  refine g_iconst (pc := 58) (v := 0) F dX5_numbersBehind_58 (by decide) ?_
  refine g_iret (pc := 59) F r dX5_numbersBehind_59 ?_
  refine ⟨?_, rfl⟩
  unfold wants
  rw [if_neg n99, if_neg n106, if_neg n112, if_neg n116, if_neg n119]
  rfl

set_option maxHeartbeats 4000000 in
set_option maxRecDepth 100000 in
theorem c_X5_readNumber (l : Launch) (g : Gm) (M : Mem) (tx : Nat → Int32) (tn : Nat) (hT : TR M tx tn) (hI : TI tx tn) (p ix : Nat) (hp : M 222 3 = nI p) (hpn : p ≤ tn) (hix : ix < 5) : Cn l yX5_readNumber cX5_readNumber 4 (some .boolean) 1 21 g [.ref (ad g 222), .int (nI ix)] M (fun v M2 => v = some (.int (if dgs (sgn tx tn) p = 0 then 0 else 1)) ∧ (∀ a, a ≠ 222 → a ≠ 223 → M2 a = M a) ∧ M2 222 = upd (M 222) 3 (nI (p + dgs (sgn tx tn) p)) ∧ M2 223 = (if dgs (sgn tx tn) p = 0 then M 223 else upd (M 223) ix (nv (sgn tx tn) p (dgs (sgn tx tn) p)))) := by
  refine Cn.intro (lv0 := [some (.ref (ad g 222)), some (.int (nI ix)), none, none]) 2 (by decide +kernel) (Nat.le_of_ble_eq_true rfl) rfl (fun X F r => ?_)
  have htn60 := hT.1
  have k220 := kd220
  have k221 := kd221
  have k222 := kd222
  have k223 := kd223
  have E : ∀ (j : Nat) (y : Int32) (M1 : Mem), j ≤ 3 → y = nI j → dgs (sgn tx tn) p = j → (∀ a, a ≠ 222 → M1 a = M a) → M1 222 = upd (M 222) 3 (nI (p + j)) → G X g 4 M1 62 [some (.ref (ad g 222)), some (.int (nI ix)), some (.int (nv (sgn tx tn) p j)), some (.int y)] [] := by
    intro j y M1 hj hy hd hf1 h22
    refine g_iload_n (pc := 62) F dX5_readNumber_62 rfl ?_
    refine g_if_eq (pc := 63) (tgt := 79) F dX5_readNumber_63 (by decide) (fun c63 => ?_) (fun c63 => ?_)
    · obtain rfl : j = 0 := by
        rw [hy, nI0, nI_inj (by omega) (by decide)] at c63
        exact c63
      refine g_iconst (pc := 79) (v := 0) F dX5_readNumber_79 (by decide) ?_
      refine g_zret (pc := 80) F (by decide) r dX5_readNumber_80 ?_
      rw [hd]
      exact ⟨by rw [if_pos rfl], fun a ha1 ha2 => hf1 a ha1, h22, by rw [if_pos rfl]; exact hf1 223 (by decide)⟩
    · have hj0 : ¬ j = 0 := fun e => c63 (by rw [hy, e]; rfl)
      refine g_iload_n (pc := 66) F dX5_readNumber_66 rfl ?_
      refine g_if_lt (pc := 67) (tgt := 79) F dX5_readNumber_67 (by decide) (fun c67 => ?_) (fun c67 => ?_)
      · exact absurd c67 (nI_pos (by omega))
      · refine g_iload_n (pc := 70) F dX5_readNumber_70 rfl ?_
        refine g_aload_n (pc := 71) F dX5_readNumber_71 rfl ?_
        refine g_getr (pc := 72) F fl_X5_9 (by assumption) rfl dX5_readNumber_72 ?_
        refine g_alen (pc := 75) F (by assumption) rfl (v := 5) (by decide) dX5_readNumber_75 ?_
        refine g_icmp_lt (pc := 76) (tgt := 81) F dX5_readNumber_76 (by decide) (fun c76 => ?_) (fun c76 => ?_)
        · refine g_aload_n (pc := 81) F dX5_readNumber_81 rfl ?_
          refine g_getr (pc := 82) F fl_X5_9 (by assumption) rfl dX5_readNumber_82 ?_
          refine g_iload_n (pc := 85) F dX5_readNumber_85 rfl ?_
          refine g_iload_n (pc := 86) F dX5_readNumber_86 rfl ?_
          refine g_iast (pc := 87) (q := ix) F k223 rfl rfl hix dX5_readNumber_87 ?_
          refine g_iconst (pc := 88) (v := 1) F dX5_readNumber_88 (by decide) ?_
          refine g_zret (pc := 89) F (by decide) r dX5_readNumber_89 ?_
          rw [hd]
          refine ⟨by rw [if_neg hj0], fun a ha1 ha2 => (upd2_k _ _ _ ha2).trans (hf1 a ha1), ?_, ?_⟩
          · rw [upd2_k _ _ _ (by decide)]; exact h22
          · rw [if_neg hj0, upd2_row, hf1 223 (by decide)]
        · exact absurd (nI_lt (a := ix) (b := 5) hix (by decide)) c76
  have L : ∀ (n j : Nat) (y : Int32) (M1 : Mem), j + n = 3 → y = nI j → (∀ i, i < j → digP (sgn tx tn (p + i))) → (∀ a, a ≠ 222 → M1 a = M a) → M1 222 = upd (M 222) 3 (nI (p + j)) → G X g 4 M1 4 [some (.ref (ad g 222)), some (.int (nI ix)), some (.int (nv (sgn tx tn) p j)), some (.int y)] [] := by
    intro n
    induction n with
    | zero =>
      intro j y M1 hj hy hd hf1 h22
      refine g_iload_n (pc := 4) F dX5_readNumber_4 rfl ?_
      refine g_iconst (pc := 5) (v := 3) F dX5_readNumber_5 (by decide) ?_
      refine g_icmp_ge (pc := 6) (tgt := 62) F dX5_readNumber_6 (by decide) (fun c6 => ?_) (fun c6 => ?_)
      · exact E j y M1 (by omega) hy (dgs_eq (by omega) hd (Or.inl (by omega))) hf1 h22
      · exact absurd (by rw [hy]; exact nI_le (a := 3) (b := j) (by omega) (by omega)) c6
    | succ n ih =>
      intro j y M1 hj hy hd hf1 h22
      refine g_iload_n (pc := 4) F dX5_readNumber_4 rfl ?_
      refine g_iconst (pc := 5) (v := 3) F dX5_readNumber_5 (by decide) ?_
      refine g_icmp_ge (pc := 6) (tgt := 62) F dX5_readNumber_6 (by decide) (fun c6 => ?_) (fun c6 => ?_)
      · exact absurd c6 (by rw [hy]; exact nI_ge (a := j) (b := 3) (by omega) (by decide))
      · refine g_aload_n (pc := 9) F dX5_readNumber_9 rfl ?_
        refine g_getr (pc := 10) F fl_X5_15 (by assumption) rfl dX5_readNumber_10 ?_
        refine g_aload_n (pc := 13) F dX5_readNumber_13 rfl ?_
        refine g_geti (pc := 14) F fl_X5_25 (by assumption) rfl dX5_readNumber_14 ?_
        refine g_stk (st' := [.int (nI (p + j)), .ref (ad g 220)]) (by rw [h22, upd_self] <;> rfl) ?_
        refine g_callV (pc := 17) (rf2 := 0) (rl2 := 0) F cs_X5_58 k220 rfl (by decide) (by rfl) (by rfl) (Nat.le_of_ble_eq_true (by rfl)) (by decide) dX5_readNumber_17 (c_X6_signAt _ g _ tx tn (hT.row (hf1 220 (by decide)) (hf1 221 (by decide))) hI (p + j) (by omega)) (fun v M2 hz => ?_)
        obtain ⟨rfl, h3⟩ := hz
        rw [h3]
        refine g_callS (pc := 20) (rf2 := 0) (rl2 := 0) F cs_X5_70 (by rfl) (by rfl) (Nat.le_of_ble_eq_true (by rfl)) (by decide) dX5_readNumber_20 (c_X5_isDigit _ g _ _) (fun v M2 hz => ?_)
        obtain ⟨rfl, h4⟩ := hz
        rw [h4]
        refine g_if_eq (pc := 23) (tgt := 62) F dX5_readNumber_23 (by decide) (fun c23 => ?_) (fun c23 => ?_)
        · have hnd := cb_0 c23
          exact E j y M1 (by omega) hy (dgs_eq (by omega) hd (Or.inr hnd)) hf1 h22
        · have hdg := cb_1 c23
          have hlt := sgn_dig hdg
          have htn := hT.1
          refine g_iload_n (pc := 26) F dX5_readNumber_26 rfl ?_
          refine g_bipush (pc := 27) (v := 10) F dX5_readNumber_27 (by decide) ?_
          refine g_imul (pc := 29) F dX5_readNumber_29 ?_
          refine g_aload_n (pc := 30) F dX5_readNumber_30 rfl ?_
          refine g_getr (pc := 31) F fl_X5_15 (by assumption) rfl dX5_readNumber_31 ?_
          refine g_aload_n (pc := 34) F dX5_readNumber_34 rfl ?_
          refine g_geti (pc := 35) F fl_X5_25 (by assumption) rfl dX5_readNumber_35 ?_
          refine g_stk (st' := [.int (nI (p + j)), .ref (ad g 220), .int (nv (sgn tx tn) p j * 10)]) (by rw [h22, upd_self] <;> rfl) ?_
          refine g_callV (pc := 38) (rf2 := 0) (rl2 := 0) F cs_X5_58 k220 rfl (by decide) (by rfl) (by rfl) (Nat.le_of_ble_eq_true (by rfl)) (by decide) dX5_readNumber_38 (c_X6_signAt _ g _ tx tn (hT.row (hf1 220 (by decide)) (hf1 221 (by decide))) hI (p + j) (by omega)) (fun v M2 hz => ?_)
          obtain ⟨rfl, h3⟩ := hz
          rw [h3]
          refine g_bipush (pc := 41) (v := 48) F dX5_readNumber_41 (by decide) ?_
          refine g_isub (pc := 43) F dX5_readNumber_43 ?_
          refine g_iadd (pc := 44) F dX5_readNumber_44 ?_
          refine g_istore_n (pc := 45) F dX5_readNumber_45 (by decide) rfl ?_
          refine g_aload_n (pc := 46) F dX5_readNumber_46 rfl ?_
          refine g_dup (pc := 47) F dX5_readNumber_47 rfl ?_
          refine g_geti (pc := 48) F fl_X5_25 (by assumption) rfl dX5_readNumber_48 ?_
          refine g_iconst (pc := 51) (v := 1) F dX5_readNumber_51 (by decide) ?_
          refine g_iadd (pc := 52) F dX5_readNumber_52 ?_
          refine g_puti (pc := 53) F fl_X5_25 rfl rfl (by assumption) rfl dX5_readNumber_53 ?_
          refine g_iinc (pc := 56) F dX5_readNumber_56 rfl rfl (by decide) rfl ?_
          refine g_goto (pc := 59) (tgt := 4) F dX5_readNumber_59 (by decide) ?_
          refine G.sub [some (.ref (ad g 222)), some (.int (nI ix)), some (.int (nv (sgn tx tn) p (j + 1))), some (.int (y + Int32.ofInt 1))] ⟨rfl, rfl, rfl, rfl, trivial⟩ (ih (j + 1) _ _ (by omega) (by rw [hy]; exact nI_1 j) ?_ ?_ ?_)
          · intro i hi
            by_cases hij : i = j
            · rw [hij]; exact hdg
            · exact hd i (by omega)
          · intro a ha; exact (upd2_k _ _ _ ha).trans (hf1 a ha)
          · rw [upd2_row, h22, upd_self, nI_1]
            funext z
            unfold upd
            split
            · rfl
            · rfl
  refine g_iconst (pc := 0) (v := 0) F dX5_readNumber_0 (by decide) ?_
  refine g_istore_n (pc := 1) F dX5_readNumber_1 (by decide) rfl ?_
  refine g_iconst (pc := 2) (v := 0) F dX5_readNumber_2 (by decide) ?_
  refine g_istore_n (pc := 3) F dX5_readNumber_3 (by decide) rfl ?_
  refine L 3 0 0 M (by omega) nI_0.symm (fun i hi => absurd hi (Nat.not_lt_zero i)) (fun _ _ => rfl) ?_
  funext z
  unfold upd
  split
  · next e => rw [e]; exact hp
  · rfl
end
section
/-! orders: how they are read, how they are done -/
theorem sgn_out {tx : Nat → Int32} {tn k : Nat} (h : ¬ k < tn) : sgn tx tn k = 0 := if_neg h
/-- k numbers of w are left to read from p on -/
def rdN (s : Nat → Int32) (w : Nat) : Nat → Nat → (Nat → Int32) → Bool × Nat × (Nat → Int32)
  | 0, p, nb => (true, p, nb)
  | k + 1, p, nb => if dgs s p = 0 then (false, p, nb) else
      if s (p + dgs s p) = (if k = 0 then 59 else 44) then rdN s w k (p + dgs s p + 1) (upd nb (w - (k + 1)) (nv s p (dgs s p))) else (false, p + dgs s p, upd nb (w - (k + 1)) (nv s p (dgs s p)))
def rdO (s : Nat → Int32) (p : Nat) (nb : Nat → Int32) : Bool × Nat × (Nat → Int32) := if wants (s p) = 0 then (false, p, nb) else rdN s (wants (s p)) (wants (s p)) (p + 1) nb
theorem rdN_agree (s : Nat → Int32) (w : Nat) : ∀ (k p : Nat) (nb nb' : Nat → Int32), k ≤ w → (∀ j, j < w - k → nb j = nb' j) → (rdN s w k p nb).1 = (rdN s w k p nb').1 ∧ (rdN s w k p nb).2.1 = (rdN s w k p nb').2.1 ∧ ((rdN s w k p nb).1 = true → ∀ j, j < w → (rdN s w k p nb).2.2 j = (rdN s w k p nb').2.2 j) := by
  intro k
  induction k with
  | zero => intro p nb nb' _ h; exact ⟨rfl, rfl, fun _ j hj => h j (by omega)⟩
  | succ k ih =>
    intro p nb nb' hk h
    unfold rdN
    by_cases hd : dgs s p = 0
    · rw [if_pos hd, if_pos hd]
      exact ⟨rfl, rfl, fun e => by cases e⟩
    · rw [if_neg hd, if_neg hd]
      by_cases hs : s (p + dgs s p) = (if k = 0 then 59 else 44)
      · rw [if_pos hs, if_pos hs]
        refine ih _ _ _ (by omega) (fun j hj => ?_)
        rw [upd_get, upd_get]
        split
        · rfl
        · exact h j (by omega)
      · rw [if_neg hs, if_neg hs]
        exact ⟨rfl, rfl, fun e => by cases e⟩
theorem rdO_agree (s : Nat → Int32) (p : Nat) (nb nb' : Nat → Int32) : (rdO s p nb).1 = (rdO s p nb').1 ∧ (rdO s p nb).2.1 = (rdO s p nb').2.1 ∧ ((rdO s p nb).1 = true → ∀ j, j < wants (s p) → (rdO s p nb).2.2 j = (rdO s p nb').2.2 j) := by
  unfold rdO
  by_cases hw : wants (s p) = 0
  · rw [if_pos hw, if_pos hw]
    exact ⟨rfl, rfl, fun e => by cases e⟩
  · rw [if_neg hw, if_neg hw]
    exact rdN_agree s _ _ _ nb nb' (Nat.le_refl _) (fun j hj => by omega)
theorem wants_le (c : Int32) : wants c ≤ 5 := by
  unfold wants
  repeat' split
  all_goals omega
theorem rdN_in {tx : Nat → Int32} {tn : Nat} (w : Nat) : ∀ (k p : Nat) (nb : Nat → Int32), p ≤ tn → p ≤ (rdN (sgn tx tn) w k p nb).2.1 ∧ (rdN (sgn tx tn) w k p nb).2.1 ≤ tn := by
  intro k
  induction k with
  | zero => intro p nb hp; exact ⟨Nat.le_refl _, hp⟩
  | succ k ih =>
    intro p nb hp
    unfold rdN
    by_cases hd : dgs (sgn tx tn) p = 0
    · rw [if_pos hd]; exact ⟨Nat.le_refl _, hp⟩
    · rw [if_neg hd]
      have hin := dgs_in (tx := tx) hp
      by_cases hs : sgn tx tn (p + dgs (sgn tx tn) p) = (if k = 0 then 59 else 44)
      · rw [if_pos hs]
        have hlt : p + dgs (sgn tx tn) p < tn := by
          by_cases hk : p + dgs (sgn tx tn) p < tn
          · exact hk
          · rw [sgn_out hk] at hs
            split at hs <;> exact absurd hs (by decide)
        have := ih (p + dgs (sgn tx tn) p + 1) (upd nb (w - (k + 1)) (nv (sgn tx tn) p (dgs (sgn tx tn) p))) (by omega)
        exact ⟨by omega, this.2⟩
      · rw [if_neg hs]; exact ⟨by show p ≤ p + _; omega, hin⟩
/-- an order, done -/
noncomputable def oObey (S : SV) (c : Int32) (nb : Nat → Int32) : Int32 × SV := if c = 99 then oClock S (nb 0) (nb 1) (nb 2) (nb 3) (nb 4) else if c = 112 then oPass S (nb 0) else if c = 116 then oTick S (nb 0) else if c = 119 then oWind S (nb 0) else oJoin S (nb 0) (nb 1)
theorem oObey_agree (S : SV) {c : Int32} {nb nb' : Nat → Int32} (hw : ¬ wants c = 0) (h : ∀ j, j < wants c → nb j = nb' j) : oObey S c nb = oObey S c nb' := by
  unfold oObey
  unfold wants at hw h
  by_cases h1 : c = 99
  · rw [if_pos h1] at h
    rw [if_pos h1, if_pos h1, h 0 (by decide), h 1 (by decide), h 2 (by decide), h 3 (by decide), h 4 (by decide)]
  · rw [if_neg h1] at h hw
    rw [if_neg h1, if_neg h1]
    have h0 : nb 0 = nb' 0 := h 0 (by
      repeat' split
      all_goals first | decide | (rename_i a1 a2 a3 a4; rw [if_neg a1, if_neg a2, if_neg a3, if_neg a4] at hw; exact absurd rfl hw))
    rw [h0]
    by_cases h2 : c = 106
    · rw [if_pos h2] at h
      rw [h 1 (by decide)]
    · rw [if_neg h2] at hw
      by_cases h3 : c = 112
      · rw [if_pos h3, if_pos h3]
      · rw [if_neg h3] at hw
        by_cases h4 : c = 116
        · rw [if_neg h3, if_neg h3, if_pos h4, if_pos h4]
        · rw [if_neg h4] at hw
          by_cases h5 : c = 119
          · rw [if_neg h3, if_neg h3, if_neg h4, if_neg h4, if_pos h5, if_pos h5]
          · rw [if_neg h5] at hw
            exact absurd rfl hw
set_option maxHeartbeats 4000000 in
set_option maxRecDepth 100000 in
theorem c_X5_setFault (l : Launch) (g : Gm) (M : Mem) (x y : Int32) : Cn l yX5_setFault cX5_setFault 3 none 0 0 g [.ref (ad g 222), .int x, .int y] M (fun v M2 => v = none ∧ M2 = upd2 (upd2 M 222 5 x) 222 6 y) := by
  refine Cn.intro (lv0 := [some (.ref (ad g 222)), some (.int x), some (.int y)]) 0 (by decide +kernel) (Nat.le_of_ble_eq_true rfl) rfl (fun X F r => ?_)
  have k220 := kd220
  have k221 := kd221
  have k222 := kd222
  have k223 := kd223
  refine g_aload_n (pc := 0) F dX5_setFault_0 rfl ?_
  refine g_iload_n (pc := 1) F dX5_setFault_1 rfl ?_
  refine g_puti (pc := 2) F fl_X5_32 rfl rfl (by assumption) rfl dX5_setFault_2 ?_
  refine g_aload_n (pc := 5) F dX5_setFault_5 rfl ?_
  refine g_iload_n (pc := 6) F dX5_setFault_6 rfl ?_
  refine g_puti (pc := 7) F fl_X5_55 rfl rfl (by assumption) rfl dX5_setFault_7 ?_
  refine g_vret (pc := 10) F r dX5_setFault_10 ?_
  exact ⟨rfl, rfl⟩

set_option maxHeartbeats 4000000 in
set_option maxRecDepth 100000 in
theorem c_X5_readOrder (l : Launch) (g : Gm) (M : Mem) (tx : Nat → Int32) (tn : Nat) (hT : TR M tx tn) (hI : TI tx tn) (st : Nat) (hst : M 222 2 = nI st) (hat : M 222 3 = nI st) (hlt : st < tn) : Cn l yX5_readOrder cX5_readOrder 4 (some .boolean) 2 44 g [.ref (ad g 222)] M (fun v M2 => v = some (.int (if (rdO (sgn tx tn) st (M 223)).1 = true then 1 else 0)) ∧ (∀ a, a ≠ 222 → a ≠ 223 → M2 a = M a) ∧ M2 222 = upd (M 222) 3 (nI (rdO (sgn tx tn) st (M 223)).2.1) ∧ M2 223 = (rdO (sgn tx tn) st (M 223)).2.2) := by
  refine Cn.intro (lv0 := [some (.ref (ad g 222)), none, none, none]) 3 (by decide +kernel) (Nat.le_of_ble_eq_true rfl) rfl (fun X F r => ?_)
  have htn60 := hT.1
  have k220 := kd220
  have k221 := kd221
  have k222 := kd222
  have k223 := kd223
  have hw5 := wants_le (sgn tx tn st)
  have L : ∀ (k i : Nat) (y : Int32) (M1 : Mem) (p : Nat), i + k = wants (sgn tx tn st) → y = nI i → (∀ a, a ≠ 222 → a ≠ 223 → M1 a = M a) → M1 222 = upd (M 222) 3 (nI p) → p ≤ tn → rdO (sgn tx tn) st (M 223) = rdN (sgn tx tn) (wants (sgn tx tn st)) k p (M1 223) → G X g 4 M1 33 [some (.ref (ad g 222)), some (.int (nI (wants (sgn tx tn st)))), some (.int y), none] [] := by
    intro k
    induction k with
    | zero =>
      intro i y M1 p hi hy hf1 h22 hp hR
      refine g_iload_n (pc := 33) F dX5_readOrder_33 rfl ?_
      refine g_iload_n (pc := 34) F dX5_readOrder_34 rfl ?_
      refine g_icmp_ge (pc := 35) (tgt := 94) F dX5_readOrder_35 (by decide) (fun c35 => ?_) (fun c35 => ?_)
      · refine g_iconst (pc := 94) (v := 1) F dX5_readOrder_94 (by decide) ?_
        refine g_zret (pc := 95) F (by decide) r dX5_readOrder_95 ?_
        rw [hR]
        exact ⟨rfl, hf1, h22, rfl⟩
      · exact absurd (by rw [hy]; exact nI_le (by omega) (by omega)) c35
    | succ k ih =>
      intro i y M1 p hi hy hf1 h22 hp hR
      refine g_iload_n (pc := 33) F dX5_readOrder_33 rfl ?_
      refine g_iload_n (pc := 34) F dX5_readOrder_34 rfl ?_
      refine g_icmp_ge (pc := 35) (tgt := 94) F dX5_readOrder_35 (by decide) (fun c35 => ?_) (fun c35 => ?_)
      · exact absurd c35 (by rw [hy]; exact nI_ge (by omega) (by omega))
      · refine g_iload_n (pc := 38) F dX5_readOrder_38 rfl ?_
        refine g_iconst (pc := 39) (v := 1) F dX5_readOrder_39 (by decide) ?_
        refine g_iadd (pc := 40) F dX5_readOrder_40 ?_
        refine g_iload_n (pc := 41) F dX5_readOrder_41 rfl ?_
        refine g_icmp_ge (pc := 42) (tgt := 50) F dX5_readOrder_42 (by decide) (fun c42 => ?_) (fun c42 => ?_)
        · have hk59 : (if k = 0 then (59 : Int32) else 44) = 59 := if_pos (by rw [hy, nI_1, nI_leI (by omega) (by omega)] at c42; omega)
          refine g_bipush (pc := 50) (v := 59) F dX5_readOrder_50 (by decide) ?_
          refine g_istore_n (pc := 52) F dX5_readOrder_52 (by decide) rfl ?_
          refine g_aload_n (pc := 53) F dX5_readOrder_53 rfl ?_
          refine g_iload_n (pc := 54) F dX5_readOrder_54 rfl ?_
          have h223 : M1 222 3 = nI p := by rw [h22, upd_self]
          refine g_stk (st' := [.int (nI i), .ref (ad g 222)]) (by rw [hy]) ?_
          refine g_callV (pc := 55) (rf2 := 1) (rl2 := 21) F cs_X5_66 k222 rfl (by decide) (by rfl) (by rfl) (Nat.le_of_ble_eq_true (by rfl)) (by decide) dX5_readOrder_55 (c_X5_readNumber _ g _ tx tn (hT.row (hf1 220 (by decide) (by decide)) (hf1 221 (by decide) (by decide))) hI p i h223 hp (by omega)) (fun v M2 hz => ?_)
          obtain ⟨rfl, z2, z3, z4⟩ := hz
          have dz : (if dgs (sgn tx tn) p = 0 then (0 : Int32) else 1) = 0 → dgs (sgn tx tn) p = 0 := fun e => Classical.byContradiction fun q => by rw [if_neg q] at e; exact absurd e (by decide)
          have dnz : ¬ (if dgs (sgn tx tn) p = 0 then (0 : Int32) else 1) = 0 → ¬ dgs (sgn tx tn) p = 0 := fun e q => e (if_pos q)
          have hin := dgs_in (tx := tx) hp
          refine g_if_eq (pc := 58) (tgt := 76) F dX5_readOrder_58 (by decide) (fun c58 => ?_) (fun c58 => ?_)
          · refine g_iconst (pc := 76) (v := 0) F dX5_readOrder_76 (by decide) ?_
            refine g_zret (pc := 77) F (by decide) r dX5_readOrder_77 ?_
            have hd := dz c58
            have e : rdN (sgn tx tn) (wants (sgn tx tn st)) (k + 1) p (M1 223) = (false, p, M1 223) := by
              unfold rdN
              rw [if_pos hd]
            rw [hR, e]
            rw [hd, Nat.add_zero, h22] at z3
            rw [if_pos hd] at z4
            refine ⟨rfl, fun a a1 a2 => (z2 a a1 a2).trans (hf1 a a1 a2), ?_, z4⟩
            rw [z3]
            funext u
            unfold upd
            split <;> rfl
          · refine g_aload_n (pc := 61) F dX5_readOrder_61 rfl ?_
            refine g_getr (pc := 62) F fl_X5_15 (by assumption) rfl dX5_readOrder_62 ?_
            refine g_aload_n (pc := 65) F dX5_readOrder_65 rfl ?_
            refine g_geti (pc := 66) F fl_X5_25 (by assumption) rfl dX5_readOrder_66 ?_
            refine g_stk (st' := [.int (nI (p + dgs (sgn tx tn) p)), .ref (ad g 220)]) (by rw [z3, upd_self] <;> rfl) ?_
            refine g_callV (pc := 69) (rf2 := 0) (rl2 := 0) F cs_X5_58 k220 rfl (by decide) (by rfl) (by rfl) (Nat.le_of_ble_eq_true (by rfl)) (by decide) dX5_readOrder_69 (c_X6_signAt _ g _ tx tn ((hT.row (hf1 220 (by decide) (by decide)) (hf1 221 (by decide) (by decide))).row (z2 220 (by decide) (by decide)) (z2 221 (by decide) (by decide))) hI (p + dgs (sgn tx tn) p) (by omega)) (fun v M2 hz => ?_)
            obtain ⟨rfl, h3⟩ := hz
            rw [h3]
            refine g_iload_n (pc := 72) F dX5_readOrder_72 rfl ?_
            refine g_icmp_eq (pc := 73) (tgt := 78) F dX5_readOrder_73 (by decide) (fun c73 => ?_) (fun c73 => ?_)
            · refine g_aload_n (pc := 78) F dX5_readOrder_78 rfl ?_
              refine g_dup (pc := 79) F dX5_readOrder_79 rfl ?_
              refine g_geti (pc := 80) F fl_X5_25 (by assumption) rfl dX5_readOrder_80 ?_
              refine g_iconst (pc := 83) (v := 1) F dX5_readOrder_83 (by decide) ?_
              refine g_iadd (pc := 84) F dX5_readOrder_84 ?_
              refine g_puti (pc := 85) F fl_X5_25 rfl rfl (by assumption) rfl dX5_readOrder_85 ?_
              refine g_iinc (pc := 88) F dX5_readOrder_88 rfl rfl (by decide) rfl ?_
              refine g_goto (pc := 91) (tgt := 33) F dX5_readOrder_91 (by decide) ?_
              have hd := dnz c58
              rw [h22] at z3
              rw [if_neg hd] at z4
              refine G.sub [some (.ref (ad g 222)), some (.int (nI (wants (sgn tx tn st)))), some (.int (y + Int32.ofInt 1)), none] ⟨rfl, rfl, rfl, trivial⟩ (ih (i + 1) _ _ (p + dgs (sgn tx tn) p + 1) (by omega) (by rw [hy]; exact nI_1 i) ?_ ?_ ?_ ?_)
              · intro a a1 a2; exact (upd2_k _ _ _ a1).trans ((z2 a a1 a2).trans (hf1 a a1 a2))
              · rw [upd2_row, z3, upd_self, nI_1]
                funext u
                unfold upd
                split
                · rfl
                · rfl
              · have := dgs_in (tx := tx) hp
                by_cases hlt : p + dgs (sgn tx tn) p < tn
                · omega
                · exfalso
                  rw [sgn_out hlt] at c73
                  exact absurd c73 (by decide)
              · rw [hR, upd2_k _ _ _ (show (223 : Nat) ≠ 222 by decide), z4]
                have hs : sgn tx tn (p + dgs (sgn tx tn) p) = (if k = 0 then (59 : Int32) else 44) := by rw [hk59]; exact c73
                have e : rdN (sgn tx tn) (wants (sgn tx tn st)) (k + 1) p (M1 223) = rdN (sgn tx tn) (wants (sgn tx tn st)) k (p + dgs (sgn tx tn) p + 1) (upd (M1 223) i (nv (sgn tx tn) p (dgs (sgn tx tn) p))) := by
                  conv => lhs; unfold rdN
                  rw [if_neg hd, if_pos hs, show wants (sgn tx tn st) - (k + 1) = i by omega]
                exact e
            · refine g_iconst (pc := 76) (v := 0) F dX5_readOrder_76 (by decide) ?_
              refine g_zret (pc := 77) F (by decide) r dX5_readOrder_77 ?_
              have hd := dnz c58
              have hs : ¬ sgn tx tn (p + dgs (sgn tx tn) p) = (if k = 0 then (59 : Int32) else 44) := by rw [hk59]; exact c73
              have e : rdN (sgn tx tn) (wants (sgn tx tn st)) (k + 1) p (M1 223) = (false, p + dgs (sgn tx tn) p, upd (M1 223) i (nv (sgn tx tn) p (dgs (sgn tx tn) p))) := by
                unfold rdN
                rw [if_neg hd, if_neg hs, show wants (sgn tx tn st) - (k + 1) = i by omega]
              rw [hR, e]
              rw [h22] at z3
              rw [if_neg hd] at z4
              refine ⟨rfl, fun a a1 a2 => (z2 a a1 a2).trans (hf1 a a1 a2), ?_, ?_⟩
              · rw [z3]
                funext u
                unfold upd
                split <;> rfl
              · exact z4
        · have hk44 : (if k = 0 then (59 : Int32) else 44) = 44 := if_neg (by rw [hy, nI_1, nI_leI (by omega) (by omega)] at c42; omega)
          refine g_bipush (pc := 45) (v := 44) F dX5_readOrder_45 (by decide) ?_
          refine g_goto (pc := 47) (tgt := 52) F dX5_readOrder_47 (by decide) ?_
          refine g_istore_n (pc := 52) F dX5_readOrder_52 (by decide) rfl ?_
          refine g_aload_n (pc := 53) F dX5_readOrder_53 rfl ?_
          refine g_iload_n (pc := 54) F dX5_readOrder_54 rfl ?_
          have h223 : M1 222 3 = nI p := by rw [h22, upd_self]
          refine g_stk (st' := [.int (nI i), .ref (ad g 222)]) (by rw [hy]) ?_
          refine g_callV (pc := 55) (rf2 := 1) (rl2 := 21) F cs_X5_66 k222 rfl (by decide) (by rfl) (by rfl) (Nat.le_of_ble_eq_true (by rfl)) (by decide) dX5_readOrder_55 (c_X5_readNumber _ g _ tx tn (hT.row (hf1 220 (by decide) (by decide)) (hf1 221 (by decide) (by decide))) hI p i h223 hp (by omega)) (fun v M2 hz => ?_)
          obtain ⟨rfl, z2, z3, z4⟩ := hz
          have dz : (if dgs (sgn tx tn) p = 0 then (0 : Int32) else 1) = 0 → dgs (sgn tx tn) p = 0 := fun e => Classical.byContradiction fun q => by rw [if_neg q] at e; exact absurd e (by decide)
          have dnz : ¬ (if dgs (sgn tx tn) p = 0 then (0 : Int32) else 1) = 0 → ¬ dgs (sgn tx tn) p = 0 := fun e q => e (if_pos q)
          have hin := dgs_in (tx := tx) hp
          refine g_if_eq (pc := 58) (tgt := 76) F dX5_readOrder_58 (by decide) (fun c58 => ?_) (fun c58 => ?_)
          · refine g_iconst (pc := 76) (v := 0) F dX5_readOrder_76 (by decide) ?_
            refine g_zret (pc := 77) F (by decide) r dX5_readOrder_77 ?_
            have hd := dz c58
            have e : rdN (sgn tx tn) (wants (sgn tx tn st)) (k + 1) p (M1 223) = (false, p, M1 223) := by
              unfold rdN
              rw [if_pos hd]
            rw [hR, e]
            rw [hd, Nat.add_zero, h22] at z3
            rw [if_pos hd] at z4
            refine ⟨rfl, fun a a1 a2 => (z2 a a1 a2).trans (hf1 a a1 a2), ?_, z4⟩
            rw [z3]
            funext u
            unfold upd
            split <;> rfl
          · refine g_aload_n (pc := 61) F dX5_readOrder_61 rfl ?_
            refine g_getr (pc := 62) F fl_X5_15 (by assumption) rfl dX5_readOrder_62 ?_
            refine g_aload_n (pc := 65) F dX5_readOrder_65 rfl ?_
            refine g_geti (pc := 66) F fl_X5_25 (by assumption) rfl dX5_readOrder_66 ?_
            refine g_stk (st' := [.int (nI (p + dgs (sgn tx tn) p)), .ref (ad g 220)]) (by rw [z3, upd_self] <;> rfl) ?_
            refine g_callV (pc := 69) (rf2 := 0) (rl2 := 0) F cs_X5_58 k220 rfl (by decide) (by rfl) (by rfl) (Nat.le_of_ble_eq_true (by rfl)) (by decide) dX5_readOrder_69 (c_X6_signAt _ g _ tx tn ((hT.row (hf1 220 (by decide) (by decide)) (hf1 221 (by decide) (by decide))).row (z2 220 (by decide) (by decide)) (z2 221 (by decide) (by decide))) hI (p + dgs (sgn tx tn) p) (by omega)) (fun v M2 hz => ?_)
            obtain ⟨rfl, h3⟩ := hz
            rw [h3]
            refine g_iload_n (pc := 72) F dX5_readOrder_72 rfl ?_
            refine g_icmp_eq (pc := 73) (tgt := 78) F dX5_readOrder_73 (by decide) (fun c73 => ?_) (fun c73 => ?_)
            · refine g_aload_n (pc := 78) F dX5_readOrder_78 rfl ?_
              refine g_dup (pc := 79) F dX5_readOrder_79 rfl ?_
              refine g_geti (pc := 80) F fl_X5_25 (by assumption) rfl dX5_readOrder_80 ?_
              refine g_iconst (pc := 83) (v := 1) F dX5_readOrder_83 (by decide) ?_
              refine g_iadd (pc := 84) F dX5_readOrder_84 ?_
              refine g_puti (pc := 85) F fl_X5_25 rfl rfl (by assumption) rfl dX5_readOrder_85 ?_
              refine g_iinc (pc := 88) F dX5_readOrder_88 rfl rfl (by decide) rfl ?_
              refine g_goto (pc := 91) (tgt := 33) F dX5_readOrder_91 (by decide) ?_
              have hd := dnz c58
              rw [h22] at z3
              rw [if_neg hd] at z4
              refine G.sub [some (.ref (ad g 222)), some (.int (nI (wants (sgn tx tn st)))), some (.int (y + Int32.ofInt 1)), none] ⟨rfl, rfl, rfl, trivial⟩ (ih (i + 1) _ _ (p + dgs (sgn tx tn) p + 1) (by omega) (by rw [hy]; exact nI_1 i) ?_ ?_ ?_ ?_)
              · intro a a1 a2; exact (upd2_k _ _ _ a1).trans ((z2 a a1 a2).trans (hf1 a a1 a2))
              · rw [upd2_row, z3, upd_self, nI_1]
                funext u
                unfold upd
                split
                · rfl
                · rfl
              · have := dgs_in (tx := tx) hp
                by_cases hlt : p + dgs (sgn tx tn) p < tn
                · omega
                · exfalso
                  rw [sgn_out hlt] at c73
                  exact absurd c73 (by decide)
              · rw [hR, upd2_k _ _ _ (show (223 : Nat) ≠ 222 by decide), z4]
                have hs : sgn tx tn (p + dgs (sgn tx tn) p) = (if k = 0 then (59 : Int32) else 44) := by rw [hk44]; exact c73
                have e : rdN (sgn tx tn) (wants (sgn tx tn st)) (k + 1) p (M1 223) = rdN (sgn tx tn) (wants (sgn tx tn st)) k (p + dgs (sgn tx tn) p + 1) (upd (M1 223) i (nv (sgn tx tn) p (dgs (sgn tx tn) p))) := by
                  conv => lhs; unfold rdN
                  rw [if_neg hd, if_pos hs, show wants (sgn tx tn st) - (k + 1) = i by omega]
                exact e
            · refine g_iconst (pc := 76) (v := 0) F dX5_readOrder_76 (by decide) ?_
              refine g_zret (pc := 77) F (by decide) r dX5_readOrder_77 ?_
              have hd := dnz c58
              have hs : ¬ sgn tx tn (p + dgs (sgn tx tn) p) = (if k = 0 then (59 : Int32) else 44) := by rw [hk44]; exact c73
              have e : rdN (sgn tx tn) (wants (sgn tx tn st)) (k + 1) p (M1 223) = (false, p + dgs (sgn tx tn) p, upd (M1 223) i (nv (sgn tx tn) p (dgs (sgn tx tn) p))) := by
                unfold rdN
                rw [if_neg hd, if_neg hs, show wants (sgn tx tn st) - (k + 1) = i by omega]
              rw [hR, e]
              rw [h22] at z3
              rw [if_neg hd] at z4
              refine ⟨rfl, fun a a1 a2 => (z2 a a1 a2).trans (hf1 a a1 a2), ?_, ?_⟩
              · rw [z3]
                funext u
                unfold upd
                split <;> rfl
              · exact z4
  refine g_aload_n (pc := 0) F dX5_readOrder_0 rfl ?_
  refine g_getr (pc := 1) F fl_X5_15 (by assumption) rfl dX5_readOrder_1 ?_
  refine g_aload_n (pc := 4) F dX5_readOrder_4 rfl ?_
  refine g_geti (pc := 5) F fl_X5_40 (by assumption) rfl dX5_readOrder_5 ?_
  refine g_stk (st' := [.int (nI st), .ref (ad g 220)]) (by rw [hst] <;> rfl) ?_
  refine g_callV (pc := 8) (rf2 := 0) (rl2 := 0) F cs_X5_58 k220 rfl (by decide) (by rfl) (by rfl) (Nat.le_of_ble_eq_true (by rfl)) (by decide) dX5_readOrder_8 (c_X6_signAt _ g _ tx tn hT hI st (by omega)) (fun v M2 hz => ?_)
  obtain ⟨rfl, h3⟩ := hz
  rw [h3]
  refine g_callS (pc := 11) (rf2 := 0) (rl2 := 0) F cs_X5_62 (by rfl) (by rfl) (Nat.le_of_ble_eq_true (by rfl)) (by decide) dX5_readOrder_11 (c_X5_numbersBehind _ g _ _) (fun v M2 hz => ?_)
  obtain ⟨rfl, h4⟩ := hz
  rw [h4]
  refine g_istore_n (pc := 14) F dX5_readOrder_14 (by decide) rfl ?_
  refine g_iload_n (pc := 15) F dX5_readOrder_15 rfl ?_
  refine g_if_ne (pc := 16) (tgt := 21) F dX5_readOrder_16 (by decide) (fun c16 => ?_) (fun c16 => ?_)
  · have hw0 : ¬ wants (sgn tx tn st) = 0 := fun e => c16 (by rw [e]; rfl)
    refine g_aload_n (pc := 21) F dX5_readOrder_21 rfl ?_
    refine g_dup (pc := 22) F dX5_readOrder_22 rfl ?_
    refine g_geti (pc := 23) F fl_X5_25 (by assumption) rfl dX5_readOrder_23 ?_
    refine g_iconst (pc := 26) (v := 1) F dX5_readOrder_26 (by decide) ?_
    refine g_iadd (pc := 27) F dX5_readOrder_27 ?_
    refine g_puti (pc := 28) F fl_X5_25 rfl rfl (by assumption) rfl dX5_readOrder_28 ?_
    refine g_iconst (pc := 31) (v := 0) F dX5_readOrder_31 (by decide) ?_
    refine g_istore_n (pc := 32) F dX5_readOrder_32 (by decide) rfl ?_
    refine G.sub [some (.ref (ad g 222)), some (.int (nI (wants (sgn tx tn st)))), some (.int 0), none] ⟨rfl, rfl, rfl, trivial⟩ (L (wants (sgn tx tn st)) 0 0 _ (st + 1) (by omega) nI_0.symm ?_ ?_ (by omega) ?_)
    · intro a a1 a2; exact upd2_k _ _ _ a1
    · rw [upd2_row, hat, nI_1]
    · rw [upd2_k _ _ _ (show (223 : Nat) ≠ 222 by decide)]
      exact if_neg hw0
  · have hw0 : wants (sgn tx tn st) = 0 := by
      rw [nI0, nI_inj (by omega) (by decide)] at c16
      exact c16
    refine g_iconst (pc := 19) (v := 0) F dX5_readOrder_19 (by decide) ?_
    refine g_zret (pc := 20) F (by decide) r dX5_readOrder_20 ?_
    have e : rdO (sgn tx tn) st (M 223) = (false, st, M 223) := if_pos hw0
    rw [e]
    refine ⟨rfl, fun _ _ _ => rfl, ?_, rfl⟩
    funext u
    unfold upd
    split
    · next q => rw [q]; exact hat
    · rfl

set_option maxHeartbeats 4000000 in
set_option maxRecDepth 100000 in
theorem c_X5_obey (l : Launch) (g : Gm) (M : Mem) (tx : Nat → Int32) (tn : Nat) (hT : TR M tx tn) (hI : TI tx tn) (st : Nat) (hst : M 222 2 = nI st) (hlt : st < tn) (h : Nat) (hk : kd h = 3) (S : SV) (t : Nat) (hr : HR M h S) (hi : Inv S t) : Cn l yX5_obey cX5_obey 2 (some .int) 4 94 g [.ref (ad g 222), .ref (ad g h)] M (fun v M2 => v = some (.int (oObey S (sgn tx tn st) (M 223)).1) ∧ HR M2 h (oObey S (sgn tx tn st) (M 223)).2 ∧ frH M M2 h) := by
  refine Cn.intro (lv0 := [some (.ref (ad g 222)), some (.ref (ad g h))]) 0 (by decide +kernel) (Nat.le_of_ble_eq_true rfl) rfl (fun X F r => ?_)
  have htn60 := hT.1
  have k220 := kd220
  have k221 := kd221
  have k222 := kd222
  have k223 := kd223
  refine g_aload_n (pc := 0) F dX5_obey_0 rfl ?_
  refine g_getr (pc := 1) F fl_X5_15 (by assumption) rfl dX5_obey_1 ?_
  refine g_aload_n (pc := 4) F dX5_obey_4 rfl ?_
  refine g_geti (pc := 5) F fl_X5_40 (by assumption) rfl dX5_obey_5 ?_
  refine g_stk (st' := [.int (nI st), .ref (ad g 220)]) (by rw [hst] <;> rfl) ?_
  refine g_callV (pc := 8) (rf2 := 0) (rl2 := 0) F cs_X5_58 k220 rfl (by decide) (by rfl) (by rfl) (Nat.le_of_ble_eq_true (by rfl)) (by decide) dX5_obey_8 (c_X6_signAt _ g _ tx tn hT hI st (by omega)) (fun v M2 hz => ?_)
  obtain ⟨rfl, h3⟩ := hz
  rw [h3]
  by_cases n99 : sgn tx tn st = 99
  · refine g_lookup (pc := 11) (off := 41) (tgt := 52) F dX5_obey_11 (by decide) (by exact osw_hit n99 rfl) (by decide) ?_
    refine g_aload_n (pc := 52) F dX5_obey_52 rfl ?_
    refine g_aload_n (pc := 53) F dX5_obey_53 rfl ?_
    refine g_getr (pc := 54) F fl_X5_9 (by assumption) rfl dX5_obey_54 ?_
    refine g_iconst (pc := 57) (v := 0) F dX5_obey_57 (by decide) ?_
    refine g_iald (pc := 58) (q := 0) F (by assumption) rfl (by decide) (by decide) dX5_obey_58 ?_
    refine g_aload_n (pc := 59) F dX5_obey_59 rfl ?_
    refine g_getr (pc := 60) F fl_X5_9 (by assumption) rfl dX5_obey_60 ?_
    refine g_iconst (pc := 63) (v := 1) F dX5_obey_63 (by decide) ?_
    refine g_iald (pc := 64) (q := 1) F (by assumption) rfl (by decide) (by decide) dX5_obey_64 ?_
    refine g_aload_n (pc := 65) F dX5_obey_65 rfl ?_
    refine g_getr (pc := 66) F fl_X5_9 (by assumption) rfl dX5_obey_66 ?_
    refine g_iconst (pc := 69) (v := 2) F dX5_obey_69 (by decide) ?_
    refine g_iald (pc := 70) (q := 2) F (by assumption) rfl (by decide) (by decide) dX5_obey_70 ?_
    refine g_aload_n (pc := 71) F dX5_obey_71 rfl ?_
    refine g_getr (pc := 72) F fl_X5_9 (by assumption) rfl dX5_obey_72 ?_
    refine g_iconst (pc := 75) (v := 3) F dX5_obey_75 (by decide) ?_
    refine g_iald (pc := 76) (q := 3) F (by assumption) rfl (by decide) (by decide) dX5_obey_76 ?_
    refine g_aload_n (pc := 77) F dX5_obey_77 rfl ?_
    refine g_getr (pc := 78) F fl_X5_9 (by assumption) rfl dX5_obey_78 ?_
    refine g_iconst (pc := 81) (v := 4) F dX5_obey_81 (by decide) ?_
    refine g_iald (pc := 82) (q := 4) F (by assumption) rfl (by decide) (by decide) dX5_obey_82 ?_
    refine g_callV (pc := 83) (rf2 := 3) (rl2 := 68) F cs_X5_74 (by assumption) rfl (by decide) (by rfl) (by rfl) (Nat.le_of_ble_eq_true (by rfl)) (by decide) dX5_obey_83 (c_X3_addClock _ g _ h hk S t hr hi _ _ _ _ _) (fun v M2 hz => ?_)
    obtain ⟨rfl, z2, z3⟩ := hz
    refine g_iret (pc := 86) F r dX5_obey_86 ?_
    unfold oObey
    rw [if_pos n99]
    exact ⟨rfl, z2, z3⟩
  by_cases n112 : sgn tx tn st = 112
  · refine g_lookup (pc := 11) (off := 87) (tgt := 98) F dX5_obey_11 (by decide) (by exact (lv_osw n99 rfl).trans (osw_hit n112 rfl)) (by decide) ?_
    refine g_aload_n (pc := 98) F dX5_obey_98 rfl ?_
    refine g_aload_n (pc := 99) F dX5_obey_99 rfl ?_
    refine g_getr (pc := 100) F fl_X5_9 (by assumption) rfl dX5_obey_100 ?_
    refine g_iconst (pc := 103) (v := 0) F dX5_obey_103 (by decide) ?_
    refine g_iald (pc := 104) (q := 0) F (by assumption) rfl (by decide) (by decide) dX5_obey_104 ?_
    refine g_callV (pc := 105) (rf2 := 1) (rl2 := 21) F cs_X5_82 (by assumption) rfl (by decide) (by rfl) (by rfl) (Nat.le_of_ble_eq_true (by rfl)) (by decide) dX5_obey_105 (c_X3_addPassenger _ g _ h hk S t hr hi _) (fun v M2 hz => ?_)
    obtain ⟨rfl, z2, z3⟩ := hz
    refine g_iret (pc := 108) F r dX5_obey_108 ?_
    unfold oObey
    rw [if_neg n99, if_pos n112]
    exact ⟨rfl, z2, z3⟩
  by_cases n116 : sgn tx tn st = 116
  · refine g_lookup (pc := 11) (off := 76) (tgt := 87) F dX5_obey_11 (by decide) (by exact (lv_osw n99 rfl).trans ((lv_osw n112 rfl).trans (osw_hit n116 rfl))) (by decide) ?_
    refine g_aload_n (pc := 87) F dX5_obey_87 rfl ?_
    refine g_aload_n (pc := 88) F dX5_obey_88 rfl ?_
    refine g_getr (pc := 89) F fl_X5_9 (by assumption) rfl dX5_obey_89 ?_
    refine g_iconst (pc := 92) (v := 0) F dX5_obey_92 (by decide) ?_
    refine g_iald (pc := 93) (q := 0) F (by assumption) rfl (by decide) (by decide) dX5_obey_93 ?_
    refine g_callV (pc := 94) (rf2 := 3) (rl2 := 64) F cs_X5_78 (by assumption) rfl (by decide) (by rfl) (by rfl) (Nat.le_of_ble_eq_true (by rfl)) (by decide) dX5_obey_94 (c_X3_endTicks _ g _ h hk S t hr hi _) (fun v M2 hz => ?_)
    obtain ⟨rfl, z2, z3⟩ := hz
    refine g_iret (pc := 97) F r dX5_obey_97 ?_
    unfold oObey
    rw [if_neg n99, if_neg n112, if_pos n116]
    exact ⟨rfl, z2, z3⟩
  by_cases n119 : sgn tx tn st = 119
  · refine g_lookup (pc := 11) (off := 98) (tgt := 109) F dX5_obey_11 (by decide) (by exact (lv_osw n99 rfl).trans ((lv_osw n112 rfl).trans ((lv_osw n116 rfl).trans (osw_hit n119 rfl)))) (by decide) ?_
    refine g_aload_n (pc := 109) F dX5_obey_109 rfl ?_
    refine g_aload_n (pc := 110) F dX5_obey_110 rfl ?_
    refine g_getr (pc := 111) F fl_X5_9 (by assumption) rfl dX5_obey_111 ?_
    refine g_iconst (pc := 114) (v := 0) F dX5_obey_114 (by decide) ?_
    refine g_iald (pc := 115) (q := 0) F (by assumption) rfl (by decide) (by decide) dX5_obey_115 ?_
    refine g_callV (pc := 116) (rf2 := 2) (rl2 := 42) F cs_X5_85 (by assumption) rfl (by decide) (by rfl) (by rfl) (Nat.le_of_ble_eq_true (by rfl)) (by decide) dX5_obey_116 (c_X3_windClock _ g _ h hk S t hr hi _) (fun v M2 hz => ?_)
    obtain ⟨rfl, z2, z3⟩ := hz
    refine g_iret (pc := 119) F r dX5_obey_119 ?_
    unfold oObey
    rw [if_neg n99, if_neg n112, if_neg n116, if_pos n119]
    exact ⟨rfl, z2, z3⟩
  refine g_lookup (pc := 11) (off := 109) (tgt := 120) F dX5_obey_11 (by decide) (by exact (lv_osw n99 rfl).trans ((lv_osw n112 rfl).trans ((lv_osw n116 rfl).trans ((lv_osw n119 rfl).trans (rfl))))) (by decide) ?_
  refine g_aload_n (pc := 120) F dX5_obey_120 rfl ?_
  refine g_aload_n (pc := 121) F dX5_obey_121 rfl ?_
  refine g_getr (pc := 122) F fl_X5_9 (by assumption) rfl dX5_obey_122 ?_
  refine g_iconst (pc := 125) (v := 0) F dX5_obey_125 (by decide) ?_
  refine g_iald (pc := 126) (q := 0) F (by assumption) rfl (by decide) (by decide) dX5_obey_126 ?_
  refine g_aload_n (pc := 127) F dX5_obey_127 rfl ?_
  refine g_getr (pc := 128) F fl_X5_9 (by assumption) rfl dX5_obey_128 ?_
  refine g_iconst (pc := 131) (v := 1) F dX5_obey_131 (by decide) ?_
  refine g_iald (pc := 132) (q := 1) F (by assumption) rfl (by decide) (by decide) dX5_obey_132 ?_
  refine g_callV (pc := 133) (rf2 := 2) (rl2 := 40) F cs_X5_88 (by assumption) rfl (by decide) (by rfl) (by rfl) (Nat.le_of_ble_eq_true (by rfl)) (by decide) dX5_obey_133 (c_X3_joinGroup _ g _ h hk S t hr hi _ _) (fun v M2 hz => ?_)
  obtain ⟨rfl, z2, z3⟩ := hz
  refine g_iret (pc := 136) F r dX5_obey_136 ?_
  unfold oObey
  rw [if_neg n99, if_neg n112, if_neg n116, if_neg n119]
  exact ⟨rfl, z2, z3⟩
end
