/-! what an answer of the reference tells of the class's latest translation -/
def RelL (lp lse le code oe : Int32) (fo wa : Int64) : Prop := lp = fm_place code fo ∧ lse = fm_second code wa ∧ le = fm_entry code oe ∧ (oe = 0 ∨ oe = 1)
theorem ob_entry (code oe : Int32) : fm_entry code oe = 0 ∨ fm_entry code oe = 1 := by
  unfold fm_entry
  repeat' split
  all_goals first | exact Or.inl rfl | exact Or.inr rfl
theorem RelL.le01 {lp lse le code oe : Int32} {fo wa : Int64} (h : RelL lp lse le code oe fo wa) : le = 0 ∨ le = 1 := by rw [h.2.2.1]; exact ob_entry code oe
