/-! what an answer of the reference tells of the class's latest translation -/
def RelL (lp lse le code oe : Int32) (fo wa : Int64) : Prop := lp = fm_place code fo ∧ lse = fm_second code wa ∧ le = fm_entry code oe ∧ (oe = 0 ∨ oe = 1)
theorem ob_entry (code oe : Int32) : fm_entry code oe = 0 ∨ fm_entry code oe = 1 := by
  unfold fm_entry
  repeat' split
  all_goals first | exact Or.inl rfl | exact Or.inr rfl
theorem RelL.le01 {lp lse le code oe : Int32} {fo wa : Int64} (h : RelL lp lse le code oe fo wa) : le = 0 ∨ le = 1 := by rw [h.2.2.1]; exact ob_entry code oe
theorem q_word (mem : Nat → Int32) (a : Int32) : fx_word mem a = fm_word mem a := sorry
theorem q_poke (mem : Nat → Int32) (a b1 b2 b3 b4 b5 : Int32) : fx_poke mem a b1 b2 b3 b4 b5 = fm_poke mem a b1 b2 b3 b4 b5 := sorry
theorem q_tr (at' vs hg ri lp lse le re code oe : Int32) (ra fo wa : Int64) (mem : Nat → Int32) (a b c : Int32) (h : RelL lp lse le code oe fo wa) : (fx_translate at' vs hg ri lp lse le ra re mem a b c).1 = (fm_translate at' vs hg ri code fo wa oe mem a b c).1 ∧ RelL (fx_translate at' vs hg ri lp lse le ra re mem a b c).2.1 (fx_translate at' vs hg ri lp lse le ra re mem a b c).2.2.1 (fx_translate at' vs hg ri lp lse le ra re mem a b c).2.2.2.1 (fm_translate at' vs hg ri code fo wa oe mem a b c).2.1 (fm_translate at' vs hg ri code fo wa oe mem a b c).2.2.2.2 (fm_translate at' vs hg ri code fo wa oe mem a b c).2.2.1 (fm_translate at' vs hg ri code fo wa oe mem a b c).2.2.2.1 := sorry
theorem q_pg (at' vs hg ri re code oe : Int32) (ra fo wa : Int64) (mem : Nat → Int32) (a b c n : Int32) : (fx_pages at' vs hg ri ra re mem a b c n).1 = (fm_pages at' vs hg ri code fo wa oe mem a b c n).1 := sorry
