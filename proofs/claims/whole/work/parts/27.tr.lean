/-! what the law compares -/
theorem q_word (mem : Nat → Int32) (a : Int32) : fx_word mem a = fm_word mem a := by
  unfold fx_word fm_word fx_isWordOfMemory
  by_cases h1 : a < 0
  · simp only [if_pos h1, if_true]
  · by_cases h2 : 262144 ≤ a
    · simp only [if_neg h1, if_pos h2, if_true]
    · by_cases h3 : a - a / 4 * 4 = 0
      · simp only [if_neg h1, if_neg h2, if_pos h3, if_neg i10]
      · simp only [if_neg h1, if_neg h2, if_neg h3, if_true]
theorem q_poke (mem : Nat → Int32) (a b1 b2 b3 b4 b5 : Int32) : fx_poke mem a b1 b2 b3 b4 b5 = fm_poke mem a b1 b2 b3 b4 b5 := by
  unfold fx_poke fm_poke fx_isWordOfMemory
  by_cases h1 : a < 0
  · simp only [if_pos h1, if_true]
  · by_cases h2 : 262144 ≤ a
    · have h4 : ¬ a ≤ 262124 := fun q => absurd (Int32.le_trans h2 q) (by decide)
      simp only [if_neg h1, if_pos h2, if_true, if_neg h4, ite_self]
    · by_cases h3 : a - a / 4 * 4 = 0
      · simp only [if_neg h1, if_neg h2, if_pos h3, if_neg i10]
      · simp only [if_neg h1, if_neg h2, if_neg h3, if_true]
theorem known_eq (a b : Int32) : fx_isKnown a b = fm_isKind a b := by
  unfold fx_isKnown fm_isKind fx_isVirtual
  by_cases h1 : a < 0
  · simp only [if_pos h1]
  · by_cases h2 : 3 < a
    · have h3 : 4 ≤ a := by rw [Int32.le_iff_toInt_le]; rw [Int32.lt_iff_toInt_lt] at h2; have e3 : (3 : Int32).toInt = 3 := by decide
                            have e4 : (4 : Int32).toInt = 4 := by decide
                            omega
      simp only [if_neg h1, if_pos h2, if_pos h3]
    · have h3 : ¬ 4 ≤ a := by rw [Int32.le_iff_toInt_le]; rw [Int32.lt_iff_toInt_lt] at h2; have e3 : (3 : Int32).toInt = 3 := by decide
                              have e4 : (4 : Int32).toInt = 4 := by decide
                              omega
      simp only [if_neg h1, if_neg h2, if_neg h3]
      by_cases h5 : a < 2
      · have h6 : ¬ 2 ≤ a := Int32.not_le.mpr h5
        simp only [if_pos h5, if_neg h6, if_true]
      · have h6 : 2 ≤ a := Int32.not_lt.mp h5
        simp only [if_neg h5, if_pos h6, if_neg i10]
theorem lt4_of {x : Int32} (h1 : ¬ x < 0) (h2 : ¬ 3 < x) : x = 0 ∨ x = 1 ∨ x = 2 ∨ x = 3 := by
  obtain ⟨j, hj, rfl⟩ := nI_of h1
  have : j ≤ 3 := by
    rcases Nat.lt_or_ge 3 j with q | q
    · exact absurd (show nI 3 < nI j from nI_lt q hj) h2
    · exact q
  rcases (show j = 0 ∨ j = 1 ∨ j = 2 ∨ j = 3 by omega) with rfl | rfl | rfl | rfl
  · exact Or.inl rfl
  · exact Or.inr (Or.inl rfl)
  · exact Or.inr (Or.inr (Or.inl rfl))
  · exact Or.inr (Or.inr (Or.inr rfl))
theorem kn_of {a b : Int32} (h : ¬ fx_isKnown a b = 0) : (a = 0 ∨ a = 1 ∨ a = 2 ∨ a = 3) ∧ (b = 0 ∨ b = 1 ∨ b = 2 ∨ b = 3) := by
  unfold fx_isKnown at h
  by_cases h1 : a < 0
  · rw [if_pos h1] at h; exact absurd rfl h
  · rw [if_neg h1] at h
    by_cases h2 : 3 < a
    · rw [if_pos h2] at h; exact absurd rfl h
    · rw [if_neg h2] at h
      by_cases h3 : b < 0
      · rw [if_pos h3] at h; exact absurd rfl h
      · rw [if_neg h3] at h
        by_cases h4 : (if fx_isVirtual a = 0 then 2 else 3 : Int32) < b
        · rw [if_pos h4] at h; exact absurd rfl h
        · refine ⟨lt4_of h1 h2, lt4_of h3 (fun q => h4 ?_)⟩
          split
          · exact Int32.lt_trans (by decide) q
          · exact q
theorem ng_sf (kind : Int32) : (-(fx_secondFault kind)).toInt32 = fm_raise kind 20 21 23 := by
  unfold fx_secondFault fm_raise
  by_cases h : kind = 0
  · simp only [if_pos h]; decide
  · by_cases h2 : kind = 2
    · simp only [if_neg h, if_pos h2]; decide
    · simp only [if_neg h, if_neg h2]; decide
theorem ng_nm (kind : Int32) : (-(fx_noMemory kind)).toInt32 = fm_raise kind 1 5 7 := by
  unfold fx_noMemory fm_raise
  by_cases h : kind = 0
  · simp only [if_pos h]; decide
  · by_cases h2 : kind = 2
    · simp only [if_neg h, if_pos h2]; decide
    · simp only [if_neg h, if_neg h2]; decide
theorem ng_ff (kind : Int32) : (-(fx_firstFault kind)).toInt32 = fm_raise kind 12 13 15 := by
  unfold fx_firstFault fm_raise
  by_cases h : kind = 0
  · simp only [if_pos h]; decide
  · by_cases h2 : kind = 2
    · simp only [if_neg h, if_pos h2]; decide
    · simp only [if_neg h, if_neg h2]; decide
theorem nm_sf (kind : Int32) : ¬ fx_noMemory kind = fx_secondFault kind := by
  unfold fx_noMemory fx_secondFault
  by_cases h : kind = 0
  · simp only [if_pos h]; decide
  · by_cases h2 : kind = 2
    · simp only [if_neg h, if_pos h2]; decide
    · simp only [if_neg h, if_neg h2]; decide
theorem ff_sf (kind : Int32) : ¬ fx_firstFault kind = fx_secondFault kind := by
  unfold fx_firstFault fx_secondFault
  by_cases h : kind = 0
  · simp only [if_pos h]; decide
  · by_cases h2 : kind = 2
    · simp only [if_neg h, if_pos h2]; decide
    · simp only [if_neg h, if_neg h2]; decide
theorem m2_sf (kind : Int32) (wa : Int64) : fm_second (fm_raise kind 20 21 23) wa = (jlshr wa 2).toInt32 := by
  unfold fm_second fm_raise
  by_cases h : kind = 0
  · simp only [if_pos h, if_true]
  · by_cases h2 : kind = 2
    · simp only [if_neg h, if_pos h2]; rw [if_neg (by decide), if_neg (by decide), if_pos trivial]
    · simp only [if_neg h, if_neg h2]; rw [if_neg (by decide), if_pos trivial]
theorem me_sf (kind oe : Int32) : fm_entry (fm_raise kind 20 21 23) oe = if oe = 0 then 0 else 1 := by
  unfold fm_entry fm_raise
  by_cases h : kind = 0
  · simp only [if_pos h, if_true]
  · by_cases h2 : kind = 2
    · simp only [if_neg h, if_pos h2]; rw [if_neg (by decide), if_neg (by decide), if_pos trivial]
    · simp only [if_neg h, if_neg h2]; rw [if_neg (by decide), if_pos trivial]
theorem m2_no {c : Int32} (h1 : ¬ c = 20) (h2 : ¬ c = 21) (h3 : ¬ c = 23) (wa : Int64) : fm_second c wa = 0 := by
  unfold fm_second
  rw [if_neg h1, if_neg h2, if_neg h3]
theorem me_no {c : Int32} (h1 : ¬ c = 20) (h2 : ¬ c = 21) (h3 : ¬ c = 23) (oe : Int32) : fm_entry c oe = 0 := by
  unfold fm_entry
  rw [if_neg h1, if_neg h2, if_neg h3]
theorem rn_no (kind : Int32) : ¬ fm_raise kind 1 5 7 = 20 ∧ ¬ fm_raise kind 1 5 7 = 21 ∧ ¬ fm_raise kind 1 5 7 = 23 := by
  unfold fm_raise
  by_cases h : kind = 0
  · simp only [if_pos h]; decide
  · by_cases h2 : kind = 2
    · simp only [if_neg h, if_pos h2]; decide
    · simp only [if_neg h, if_neg h2]; decide
theorem rf_no (kind : Int32) : ¬ fm_raise kind 12 13 15 = 20 ∧ ¬ fm_raise kind 12 13 15 = 21 ∧ ¬ fm_raise kind 12 13 15 = 23 := by
  unfold fm_raise
  by_cases h : kind = 0
  · simp only [if_pos h]; decide
  · by_cases h2 : kind = 2
    · simp only [if_neg h, if_pos h2]; decide
    · simp only [if_neg h, if_neg h2]; decide
theorem mp_no {c : Int32} (h : ¬ c = 0) (fo : Int64) : fm_place c fo = -1 := by
  unfold fm_place
  rw [if_neg h]
