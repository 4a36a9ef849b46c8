/-! Numbers: where an index lies -/
theorem i4 : (4 : Int32) = nI 4 := rfl
theorem ii_of {x M : Int32} {n : Nat} (hM : M = nI n) (hn : n < 2 ^ 31) (h : ¬ x < 0) (h5 : ¬ M ≤ x) : ∃ j : Nat, j < n ∧ x = nI j := by
  obtain ⟨j, hj, rfl⟩ := nI_of h
  refine ⟨j, ?_, rfl⟩
  rcases Nat.lt_or_ge j n with q | q
  · exact q
  · exact absurd (by rw [hM]; exact nI_le q hj) h5
theorem ll_of {x M : Int64} {n : Nat} (hM : M = lN n) (hn : n < 2 ^ 63) (h : ¬ x < 0) (h5 : x < M) : ∃ j : Nat, j < n ∧ x = lN j := by
  obtain ⟨j, hj, rfl⟩ := pk_lOf h
  refine ⟨j, ?_, rfl⟩
  rw [hM] at h5
  exact (pk_lLT hj hn).mp h5
theorem vi_place {x : Int64} (h : ¬ x < 0) (h5 : x < 262144) : vp_in (x.toInt32 / 4) 65536 := by
  obtain ⟨j, hj, rfl⟩ := ll_of (n := 262144) rfl (by decide) h h5
  rw [lN_i, i4, pk_div (by omega) (by decide) (by decide)]
  exact vp_in_nI (by omega) (by decide)
theorem pg_N {x : Int32} (h1 : ¬ x < 1) (h2 : ¬ 1024 < x) : ∃ N : Nat, 1 ≤ N ∧ N ≤ 1024 ∧ x = nI N := by
  have h0 : ¬ x < 0 := fun h => h1 (Int32.lt_trans h (by decide))
  obtain ⟨j, hj, rfl⟩ := nI_of h0
  refine ⟨j, ?_, ?_, rfl⟩
  · rcases Nat.lt_or_ge j 1 with q | q
    · exact absurd (show nI j < nI 1 from nI_lt q (by decide)) h1
    · exact q
  · rcases Nat.lt_or_ge 1024 j with q | q
    · exact absurd (show nI 1024 < nI j from nI_lt q hj) h2
    · exact q
