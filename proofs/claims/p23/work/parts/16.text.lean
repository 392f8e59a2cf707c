/-! the text, and its orders -/
/-- the text's cells: tn signs, tx -/
def TR (M : Mem) (tx : Nat → Int32) (tn : Nat) : Prop := tn ≤ 60 ∧ M 220 1 = nI tn ∧ ∀ j, j < tn → M 221 j = tx j
/-- every sign is 32 to 126 -/
def TI (tx : Nat → Int32) (tn : Nat) : Prop := ∀ j, j < tn → ∃ c, tx j = nI c ∧ 32 ≤ c ∧ c ≤ 126
theorem TR.row {M M2 : Mem} {tx : Nat → Int32} {tn : Nat} (h : TR M tx tn) (e0 : M2 220 = M 220) (e1 : M2 221 = M 221) : TR M2 tx tn := ⟨h.1, by rw [e0]; exact h.2.1, fun j hj => by rw [e1]; exact h.2.2 j hj⟩
theorem kd220 : kd 220 = 6 := by decide
theorem kd221 : kd 221 = 14 := by decide
theorem kd222 : kd 222 = 5 := by decide
theorem kd223 : kd 223 = 10 := by decide
