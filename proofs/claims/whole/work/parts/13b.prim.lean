/-! entries and rights, bit by bit: the class's words in the reference's -/
theorem and_lo {N m : Nat} (hm : m < 256) : N &&& m = N % 256 &&& m := by
  apply Nat.eq_of_testBit_eq
  intro i
  rw [Nat.testBit_and, Nat.testBit_and, show 256 = 2 ^ 8 from rfl, Nat.testBit_mod_two_pow]
  rcases Nat.lt_or_ge i 8 with h | h
  · simp [h]
  · have : m.testBit i = false := Nat.testBit_lt_two_pow (Nat.lt_of_lt_of_le (show m < 2 ^ 8 from hm) (Nat.pow_le_pow_right (by decide) h))
    simp [this]
theorem and_lt {N m : Nat} (hm : m < 256) : N &&& m < 256 := Nat.lt_of_le_of_lt Nat.and_le_right hm
theorem k_eq {N m k : Nat} (hN : N < 2 ^ 32) (hm : m < 256) (hk : k < 256) : (lN N &&& lN m = lN k) ↔ N % 256 &&& m = k := by
  rw [wb_and (by omega) (by omega), and_lo hm]
  exact pk_lEQ (by have := and_lt (N := N % 256) hm; omega) (by omega)
theorem i_eq {N m k : Nat} (hm : m < 256) (hk : k < 256) : (nI N &&& nI m = nI k) ↔ N % 256 &&& m = k := by
  rw [nx_and, and_lo hm]
  exact nI_eq (by have := and_lt (N := N % 256) hm; omega) (by omega)
theorem E_n {N : Nat} (h : N < 2 ^ 32) : (nI N).toInt64 &&& 4294967295 = lN N := by
  apply wb_inj
  rw [Int64.toBitVec_and, wb_tb, Int32.toBitVec_toInt64]
  have hm : ∀ i, i < 64 → (4294967295 : Int64).toBitVec.getLsbD i = decide (i < 32) := by decide +kernel
  apply BitVec.eq_of_getLsbD_eq
  intro i hi
  rw [BitVec.getLsbD_and, BitVec.getLsbD_signExtend, hm i hi, BitVec.getLsbD_ofNat]
  rcases Nat.lt_or_ge i 32 with q | q
  · have : (nI N).toBitVec.getLsbD i = N.testBit i := by
      show (nI N).toBitVec.toNat.testBit i = _
      rw [pk_tn h]
    rw [if_pos q, this]
    simp [q, hi]
  · have : N.testBit i = false := Nat.testBit_lt_two_pow (Nat.lt_of_lt_of_le h (Nat.pow_le_pow_right (by decide) q))
    simp [this, Nat.not_lt.mpr q]
theorem b_nI {N i : Nat} (h : N < 2 ^ 32) : bt (nI N) i = N.testBit i := by
  show (nI N).toBitVec.toNat.testBit i = _
  rw [pk_tn h]
theorem s_eq {N k : Nat} (hN : N < 2 ^ 32) (hk : k < 8) : ((nI N >>> (nI k &&& 31)) &&& 1 = 1) ↔ (N % 256).testBit k = true := by
  rw [pk_and _ (m := 1) 1 rfl]
  have e1 : (nI N >>> (nI k &&& 31)).toBitVec.toNat.testBit 0 = N.testBit k := by
    have := b_sshr k (by omega) (nI N) (i := 0) (by omega)
    rw [if_pos (by omega), b_nI hN] at this
    exact this
  have e2 : (N % 256).testBit k = N.testBit k := by
    rw [show 256 = 2 ^ 8 from rfl, Nat.testBit_mod_two_pow]; simp [hk]
  rw [e2, ← e1, Nat.testBit_zero]
  have h9 : (nI ((nI N >>> (nI k &&& 31)).toBitVec.toNat % 2 ^ 1) = nI 1) ↔ (nI N >>> (nI k &&& 31)).toBitVec.toNat % 2 ^ 1 = 1 := nI_eq (by omega) (by decide)
  rw [show (1 : Int32) = nI 1 from rfl, h9]
  simp
theorem p_s {N k : Nat} (hN : N < 2 ^ 32) (hk : k < 8) : fm_isSet (nI N) (nI k) = if (N % 256).testBit k = true then 1 else 0 := by
  unfold fm_isSet
  simp only [s_eq hN hk]
theorem p_s0 {N : Nat} (hN : N < 2 ^ 32) : fm_isSet (nI N) 0 = if (N % 256).testBit 0 = true then 1 else 0 := p_s hN (k := 0) (by decide)
theorem p_s1 {N : Nat} (hN : N < 2 ^ 32) : fm_isSet (nI N) 1 = if (N % 256).testBit 1 = true then 1 else 0 := p_s hN (k := 1) (by decide)
theorem p_s2 {N : Nat} (hN : N < 2 ^ 32) : fm_isSet (nI N) 2 = if (N % 256).testBit 2 = true then 1 else 0 := p_s hN (k := 2) (by decide)
theorem p_s3 {N : Nat} (hN : N < 2 ^ 32) : fm_isSet (nI N) 3 = if (N % 256).testBit 3 = true then 1 else 0 := p_s hN (k := 3) (by decide)
theorem p_s4 {N : Nat} (hN : N < 2 ^ 32) : fm_isSet (nI N) 4 = if (N % 256).testBit 4 = true then 1 else 0 := p_s hN (k := 4) (by decide)
theorem p_s6 {N : Nat} (hN : N < 2 ^ 32) : fm_isSet (nI N) 6 = if (N % 256).testBit 6 = true then 1 else 0 := p_s hN (k := 6) (by decide)
theorem p_s7 {N : Nat} (hN : N < 2 ^ 32) : fm_isSet (nI N) 7 = if (N % 256).testBit 7 = true then 1 else 0 := p_s hN (k := 7) (by decide)
theorem p_h0 {N : Nat} (hN : N < 2 ^ 32) : fm_has (nI N) 0 = if (N % 256).testBit 0 = true then 1 else 0 := p_s hN (k := 0) (by decide)
theorem p_h1 {N : Nat} (hN : N < 2 ^ 32) : fm_has (nI N) 1 = if (N % 256).testBit 1 = true then 1 else 0 := p_s hN (k := 1) (by decide)
theorem p_h2 {N : Nat} (hN : N < 2 ^ 32) : fm_has (nI N) 2 = if (N % 256).testBit 2 = true then 1 else 0 := p_s hN (k := 2) (by decide)
theorem p_h3 {N : Nat} (hN : N < 2 ^ 32) : fm_has (nI N) 3 = if (N % 256).testBit 3 = true then 1 else 0 := p_s hN (k := 3) (by decide)
theorem p_lf {N : Nat} : fm_isLeaf (nI N) = if N % 256 &&& 14 = 0 then 0 else 1 := by
  have h : (nI N &&& 14 = 0) ↔ (N % 256 &&& 14 = 0) := i_eq (by decide) (by decide)
  unfold fm_isLeaf
  simp only [h]
theorem lo_ex (N : Nat) : ∃ r, r < 256 ∧ N % 256 = r := ⟨_, Nat.mod_lt _ (by decide), rfl⟩
def tabM (e : Int32) : Int32 := if fm_stands e = 0 then 0 else if fm_isLeaf e = 0 then if fm_isSet e 4 = 0 then if fm_isSet e 6 = 0 then if fm_isSet e 7 = 0 then 1 else 0 else 0 else 0 else 0
theorem isTable_eq {N : Nat} (hN : N < 2 ^ 32) : fx_isTable (lN N) = tabM (nI N) := by
  have h : (lN N &&& 223 = 1) ↔ (N % 256 &&& 223 = 1) := k_eq hN (by decide) (by decide)
  unfold fx_isTable tabM fm_stands
  simp only [h, p_s0 hN, p_s1 hN, p_s2 hN, p_s4 hN, p_s6 hN, p_s7 hN, p_lf]
  obtain ⟨r, hr, e⟩ := lo_ex N
  rw [e]
  clear e hN h
  revert r
  decide +kernel
theorem and_hi (N : Nat) : N &&& 1047552 = N / 1024 % 1024 * 1024 := by
  apply Nat.eq_of_testBit_eq
  intro i
  rw [Nat.testBit_and, show 1047552 = (2 ^ 10 - 1) <<< 10 from rfl, show N / 1024 % 1024 * 1024 = (N / 2 ^ 10 % 2 ^ 10) <<< 10 from by rw [Nat.shiftLeft_eq], Nat.testBit_shiftLeft, Nat.testBit_shiftLeft, Nat.testBit_two_pow_sub_one, Nat.testBit_mod_two_pow, Nat.testBit_div_two_pow]
  rcases Nat.lt_or_ge i 10 with h | h
  · simp [Nat.not_le.mpr h]
  · have : i - 10 + 10 = i := by omega
    simp only [this, h, decide_true, ge_iff_le, Bool.true_and]
    exact Bool.and_comm _ _
theorem sar10 {N : Nat} (hN : N < 2 ^ 32) : (nI N >>> ((10 : Int32) &&& 31)) &&& 1023 = nI (N / 1024 % 1024) := by
  rw [pk_and _ (m := 1023) 10 rfl]
  congr 1
  apply Nat.eq_of_testBit_eq
  intro i
  rw [show 1024 = 2 ^ 10 from rfl, Nat.testBit_mod_two_pow, Nat.testBit_mod_two_pow, Nat.testBit_div_two_pow]
  rcases Nat.lt_or_ge i 10 with h | h
  · have := b_sshr 10 (by omega) (nI N) (i := i) (by omega)
    rw [if_pos (by omega), b_nI hN] at this
    rw [show (nI N >>> ((10 : Int32) &&& 31)).toBitVec.toNat.testBit i = N.testBit (10 + i) from this, Nat.add_comm]
  · simp [Nat.not_lt.mpr h]
theorem askew_eq {N : Nat} (hN : N < 2 ^ 32) : (lN N &&& 1047552 = 0) ↔ ((nI N >>> ((10 : Int32) &&& 31)) &&& 1023 = 0) := by
  rw [sar10 hN, show (1047552 : Int64) = lN 1047552 from rfl, wb_and (by omega) (by decide), and_hi]
  rw [show (0 : Int64) = lN 0 from rfl, show (0 : Int32) = nI 0 from rfl, pk_lEQ (by omega) (by decide), nI_eq (by omega) (by decide)]
  omega
def leafM (e lg : Int32) : Int32 := if fm_stands e = 0 then 0 else if fm_isLeaf e = 0 then 0 else if lg = 0 then 1 else if ((e >>> ((10 : Int32) &&& 31)) &&& 1023) = 0 then 1 else 0
theorem goodLeaf_eq {N : Nat} (hN : N < 2 ^ 32) (lg : Int32) : fx_isGoodLeaf (lN N) lg = leafM (nI N) lg := by
  have h1 : (lN N &&& 1 = 0) ↔ (N % 256 &&& 1 = 0) := k_eq hN (by decide) (by decide)
  have h2 : (lN N &&& 14 = 0) ↔ (N % 256 &&& 14 = 0) := k_eq hN (by decide) (by decide)
  have h3 : (lN N &&& 6 = 4) ↔ (N % 256 &&& 6 = 4) := k_eq hN (by decide) (by decide)
  unfold fx_isGoodLeaf leafM fm_stands
  simp only [h1, h2, h3, askew_eq hN, p_s0 hN, p_s1 hN, p_s2 hN, p_lf]
  by_cases hl : lg = 0
  · simp only [if_pos hl]
    obtain ⟨r, hr, e⟩ := lo_ex N
    rw [e]
    clear e hN h1 h2 h3 hl
    revert r
    decide +kernel
  · simp only [if_neg hl]
    by_cases hq : ((nI N >>> ((10 : Int32) &&& 31)) &&& 1023) = 0
    · simp only [if_pos hq]
      obtain ⟨r, hr, e⟩ := lo_ex N
      rw [e]
      clear e hN h1 h2 h3 hl hq
      revert r
      decide +kernel
    · simp only [if_neg hq]
      obtain ⟨r, hr, e⟩ := lo_ex N
      rw [e]
      clear e hN h1 h2 h3 hl hq
      revert r
      decide +kernel
theorem grants_eq {N : Nat} (hN : N < 2 ^ 32) {kind lx : Int32} (hk : kind = 0 ∨ kind = 1 ∨ kind = 2 ∨ kind = 3) (hx : lx = 0 ∨ lx = 1) : fx_grants kind (lN N) lx = fm_allows (nI N) kind lx := by
  have h1 : (lN N &&& 64 = 0) ↔ (N % 256 &&& 64 = 0) := k_eq hN (by decide) (by decide)
  have h2 : (lN N &&& 4 = 0) ↔ (N % 256 &&& 4 = 0) := k_eq hN (by decide) (by decide)
  have h3 : (lN N &&& 128 = 0) ↔ (N % 256 &&& 128 = 0) := k_eq hN (by decide) (by decide)
  have h4 : (lN N &&& 8 = 0) ↔ (N % 256 &&& 8 = 0) := k_eq hN (by decide) (by decide)
  have h5 : (lN N &&& (if lx = 0 then 2 else 10 : Int64) = 0) ↔ (N % 256 &&& (if lx = 0 then 2 else 10) = 0) := by
    rcases hx with rfl | rfl
    · exact k_eq (m := 2) (k := 0) hN (by decide) (by decide)
    · exact k_eq (m := 10) (k := 0) hN (by decide) (by decide)
  unfold fx_grants fm_allows
  simp only [h1, h2, h3, h4, h5, p_s1 hN, p_s2 hN, p_s3 hN, p_s6 hN, p_s7 hN]
  obtain ⟨r, hr, e⟩ := lo_ex N
  rw [e]
  clear e hN h1 h2 h3 h4 h5
  rcases hx with rfl | rfl <;> rcases hk with rfl | rfl | rfl | rfl <;> revert r <;> decide +kernel
theorem ub_eq {N : Nat} (hN : N < 2 ^ 32) : (lN N &&& 16 = 0) ↔ fm_isSet (nI N) 4 = 0 := by
  have h1 : (lN N &&& 16 = 0) ↔ (N % 256 &&& 16 = 0) := k_eq hN (by decide) (by decide)
  rw [h1, p_s4 hN]
  obtain ⟨r, hr, e⟩ := lo_ex N
  rw [e]
  clear e hN h1
  revert r
  decide +kernel
theorem rt_eq (ri : Int32) : ((ri &&& 1 = 0) ↔ fm_has ri 0 = 0) ∧ ((ri &&& 2 = 0) ↔ fm_has ri 1 = 0) ∧ ((ri &&& 4 = 0) ↔ fm_has ri 2 = 0) ∧ ((ri &&& 10 = 0) ↔ (fm_has ri 3 = 0 ∧ fm_has ri 1 = 0)) := by
  obtain ⟨N, hN, rfl⟩ := wb_of32 ri
  have h1 : (nI N &&& 1 = 0) ↔ (N % 256 &&& 1 = 0) := i_eq (by decide) (by decide)
  have h2 : (nI N &&& 2 = 0) ↔ (N % 256 &&& 2 = 0) := i_eq (by decide) (by decide)
  have h3 : (nI N &&& 4 = 0) ↔ (N % 256 &&& 4 = 0) := i_eq (by decide) (by decide)
  have h4 : (nI N &&& 10 = 0) ↔ (N % 256 &&& 10 = 0) := i_eq (by decide) (by decide)
  rw [h1, h2, h3, h4, p_h0 hN, p_h1 hN, p_h2 hN, p_h3 hN]
  obtain ⟨r, hr, e⟩ := lo_ex N
  rw [e]
  clear e hN h1 h2 h3 h4
  revert r
  decide +kernel
