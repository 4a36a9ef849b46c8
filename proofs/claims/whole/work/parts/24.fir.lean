/-! the first stage -/
def FR (kind : Int32) (x : Int64 × Int64 × Int32) (o : Int64 × Int32 × Int64 × Int32) : Prop :=
  ((x.1 = fx_secondFault kind ∧ o.2.1 = fm_raise kind 20 21 23 ∧ x.2.1 = o.2.2.1 ∧ x.2.2 = o.2.2.2 ∧ (∃ n : Nat, n < 2 ^ 62 ∧ x.2.1 = lN n) ∧ (x.2.2 = 0 ∨ x.2.2 = 1)) ∨
  (x.1 = fx_noMemory kind ∧ o.2.1 = fm_raise kind 1 5 7) ∨
  (x.1 = fx_firstFault kind ∧ o.2.1 = fm_raise kind 12 13 15) ∨
  (∃ R : Nat, R < 2 ^ 34 ∧ x.1 = lN R ∧ o.1 = lN R ∧ o.2.1 = 0)) ∧ (o.2.2.2 = 0 ∨ o.2.2.2 = 1)
theorem FR_nm {kind : Int32} {ra wa z : Int64} {re oe0 : Int32} (h0 : oe0 = 0 ∨ oe0 = 1) : FR kind (fx_noMemory kind, ra, re) (z, fm_raise kind 1 5 7, wa, oe0) := ⟨Or.inr (Or.inl ⟨rfl, rfl⟩), h0⟩
theorem FR_ff {kind : Int32} {ra wa z : Int64} {re oe0 : Int32} (h0 : oe0 = 0 ∨ oe0 = 1) : FR kind (fx_firstFault kind, ra, re) (z, fm_raise kind 12 13 15, wa, oe0) := ⟨Or.inr (Or.inr (Or.inl ⟨rfl, rfl⟩)), h0⟩
theorem FR_r {kind : Int32} {R : Nat} {ra wa : Int64} {re oe0 : Int32} (h0 : oe0 = 0 ∨ oe0 = 1) (hR : R < 2 ^ 34) : FR kind (lN R, ra, re) (lN R, 0, wa, oe0) := ⟨Or.inr (Or.inr (Or.inr ⟨R, hR, rfl, rfl, rfl⟩)), h0⟩
theorem rs_ne (kind : Int32) : ¬ fm_raise kind 20 21 23 = 0 := by
  unfold fm_raise
  split
  · decide
  · split <;> decide
theorem rf_ne (kind : Int32) : ¬ fm_raise kind 12 13 15 = 0 := by
  unfold fm_raise
  split
  · decide
  · split <;> decide
def usrM (mode : Int32) : Int32 := if mode - mode / 2 * 2 = 0 then 1 else 0
def sumM (ri mode : Int32) : Int32 := if fx_isVirtual mode = 0 then fm_has ri 0 else fm_has ri 2
def lxM (ri mode : Int32) : Int32 := if fx_isVirtual mode = 0 then fm_has ri 1 else (if fm_has ri 3 = 0 then if fm_has ri 1 = 0 then 0 else 1 else 1 : Int32)
theorem ob_has (ri k : Int32) : fm_has ri k = 0 ∨ fm_has ri k = 1 := by
  unfold fm_has
  split
  · exact Or.inr rfl
  · exact Or.inl rfl
theorem lx_eq (ri mode : Int32) : (if (ri &&& (if fx_isVirtual mode = 0 then 2 else 10 : Int32)) = 0 then 0 else 1 : Int32) = lxM ri mode := by
  unfold lxM
  by_cases h : fx_isVirtual mode = 0
  · simp only [if_pos h, (rt_eq ri).2.1]
    rcases ob_has ri 1 with q | q
    · rw [if_pos q, q]
    · rw [if_neg (by rw [q]; exact i10), q]
  · simp only [if_neg h, (rt_eq ri).2.2.2]
    by_cases h3 : fm_has ri 3 = 0
    · by_cases h1 : fm_has ri 1 = 0
      · rw [if_pos ⟨h3, h1⟩, if_pos h3, if_pos h1]
      · rw [if_neg (fun q => h1 q.2), if_pos h3, if_neg h1]
    · rw [if_neg (fun q => h3 q.1), if_neg h3]
theorem lx01 (ri mode : Int32) : lxM ri mode = 0 ∨ lxM ri mode = 1 := by
  rw [← lx_eq]
  exact ite01 (Or.inl rfl) (Or.inr rfl)
theorem ufit {N : Nat} (hN : N < 2 ^ 32) (ri kind : Int32) {mode : Int32} (hm : mode = 0 ∨ mode = 1 ∨ mode = 2 ∨ mode = 3) : (fx_userBitFits ri mode kind (lN N) = 0) ↔ (fm_userFits (nI N) (usrM mode) kind (sumM ri mode) = 0) := by
  unfold fx_userBitFits fm_userFits sumM
  simp only [ub_eq hN]
  rcases hm with rfl | rfl | rfl | rfl
  · rw [if_pos rfl, if_neg (by decide +kernel : ¬ usrM 0 = 0)]
    rcases ob_isSet (nI N) 4 with q | q <;> simp [q]
  · rw [if_neg (by decide), if_neg (by decide), if_pos (by decide +kernel : usrM 1 = 0)]
    have hv : fx_isVirtual 1 = 0 := by decide +kernel
    simp only [if_pos hv, (rt_eq ri).1]
    by_cases hu : fm_isSet (nI N) 4 = 0
    · simp only [if_pos hu, if_true]
    · simp only [if_neg hu, if_neg i10]
      by_cases hk : kind = 0
      · simp only [if_pos hk]; simp
      · simp only [if_neg hk]
  · rw [if_neg (by decide), if_pos rfl, if_neg (by decide +kernel : ¬ usrM 2 = 0)]
    rcases ob_isSet (nI N) 4 with q | q <;> simp [q]
  · rw [if_neg (by decide), if_neg (by decide), if_pos (by decide +kernel : usrM 3 = 0)]
    have hv : ¬ fx_isVirtual 3 = 0 := by decide +kernel
    simp only [if_neg hv, (rt_eq ri).2.2.1]
    by_cases hu : fm_isSet (nI N) 4 = 0
    · simp only [if_pos hu, if_true]
    · simp only [if_neg hu, if_neg i10]
      by_cases hk : kind = 0
      · simp only [if_pos hk]; simp
      · simp only [if_neg hk]
theorem firAl {N : Nat} (hN : N < 2 ^ 32) {ri mode kind : Int32} (hm : mode = 0 ∨ mode = 1 ∨ mode = 2 ∨ mode = 3) (hk : kind = 0 ∨ kind = 1 ∨ kind = 2 ∨ kind = 3) : fx_firstAllows ri mode kind (lN N) = if fm_userFits (nI N) (usrM mode) kind (sumM ri mode) = 0 then 0 else if fm_allows (nI N) kind (lxM ri mode) = 0 then 0 else 1 := by
  unfold fx_firstAllows
  simp only [ufit hN ri kind hm, lx_eq, grants_eq hN hk (lx01 ri mode)]
set_option maxHeartbeats 4000000 in
set_option maxRecDepth 100000 in
theorem F1v {hg ri : Int32} {ra wa : Int64} {re oe0 : Int32} {mem : Nat → Int32} {mode kind root : Int32} {n : Nat} (h00 : oe0 = 0 ∨ oe0 = 1) (hn : n < 2 ^ 32) (hm : mode = 0 ∨ mode = 1 ∨ mode = 2 ∨ mode = 3) (hk : kind = 0 ∨ kind = 1 ∨ kind = 2 ∨ kind = 3) (hv : ¬ fx_isVirtual mode = 0) (h : root < 0) : FR kind (fx_walkFirst hg ri ra re mem mode kind (lN n) root) (fm_first1 hg ri 0 wa oe0 mem root (lN n) kind (usrM mode) (sumM ri mode) (lxM ri mode)) := by
  unfold fx_walkFirst fm_first1
  rw [if_pos h]
  obtain ⟨f, hf, ef⟩ := root_n1 root
  rw [ef, up_x hf (by omega), up_m1 hf (by omega), Nat.mod_eq_of_lt (show n / 4194304 < 1024 by omega)]
  have hq1 : f * 4096 + 4 * (n / 4194304) < 2 ^ 34 := by omega
  generalize f * 4096 + 4 * (n / 4194304) = q1 at hq1 ⊢
  have hSS := S2v (hg := hg) (ri := ri) (ra := ra) (wa := wa) (re := re) (oe0 := oe0) (mem := mem) (mode := mode) (kind := kind) (oe := 1) (k' := 1) h00 hq1 hk (Or.inr rfl) (by rw [if_neg i10]) hv
  generalize fx_throughSecond hg ri ra re mem mode kind (lN q1) 1 = x1 at hSS ⊢
  generalize fm_second_w hg ri 0 wa oe0 mem (lN q1) 1 kind 1 = o1 at hSS ⊢
  obtain ⟨v1, ra1, re1⟩ := x1
  obtain ⟨w1, c1, wa1, oe1⟩ := o1
  obtain ⟨hSS, hoe⟩ := hSS
  have hoe : oe1 = 0 ∨ oe1 = 1 := hoe
  rcases hSS with ⟨s1, s2, s3, s4, s5, s6⟩ | ⟨s1, s2⟩ | ⟨R, hR, hR2, s1, s2⟩ | ⟨R, hR, s1, s2, s3⟩
  · dsimp only at s1 s2 s3 s4 s5 s6
    subst s1; subst s2
    rw [ent_neg (sf_neg kind)]
    simp only [if_pos (sf_neg kind), if_neg (rs_ne kind)]
    exact ⟨Or.inl ⟨rfl, rfl, s3, s4, s5, s6⟩, hoe⟩
  · dsimp only at s1 s2
    subst s1; subst s2
    rw [ent_neg (nm_neg kind)]
    simp only [if_pos (nm_neg kind), if_neg (raise_ne kind)]
    exact FR_nm hoe
  · dsimp only at s1 s2
    subst s1; subst s2
    rw [ent_out hR2 (by omega)]
    simp only [if_pos (nm_neg kind), if_neg (raise_ne kind)]
    exact FR_nm hoe
  · dsimp only at s1 s2 s3
    subst s1; subst s2; subst s3
    obtain ⟨N1, hN1, e1⟩ := mem_nI mem (R / 4)
    rw [ent_in hR hN1 e1]
    simp only [ix_m hR, e1, if_true, if_neg (l_nn (q := N1) (by omega)), isTable_eq hN1, goodLeaf_eq hN1, firAl hN1 hm hk, lo_x hN1 (show n < 2 ^ 62 by omega), lo_m hN1 (show n < 2 ^ 62 by omega), res_x hN1 (show n < 2 ^ 34 by omega), res_m hN1 (show n < 2 ^ 34 by omega)]
    have hq0 : N1 / 1024 * 4096 + 4 * (n / 4096 % 1024) < 2 ^ 34 := by omega
    generalize N1 / 1024 * 4096 + 4 * (n / 4096 % 1024) = q0 at hq0 ⊢
    by_cases hst : fm_stands (nI N1) = 0
    · simp only [tabM, leafM, if_pos hst, if_true, if_neg i10]
      exact FR_ff hoe
    · by_cases hlf : fm_isLeaf (nI N1) = 0
      · by_cases h4 : fm_isSet (nI N1) 4 = 0
        · by_cases h6 : fm_isSet (nI N1) 6 = 0
          · by_cases h7 : fm_isSet (nI N1) 7 = 0
            · simp only [tabM, leafM, if_neg hst, if_pos hlf, if_pos h4, if_pos h6, if_pos h7, if_true, if_neg i10]
              have hS0 := S2v (hg := hg) (ri := ri) (ra := ra1) (wa := wa1) (re := re1) (oe0 := oe1) (mem := mem) (mode := mode) (kind := kind) (oe := 1) (k' := 1) hoe (by omega) hk (Or.inr rfl) (by rw [if_neg i10]) hv
              generalize fx_throughSecond hg ri ra1 re1 mem mode kind (lN q0) 1 = x0 at hS0 ⊢
              generalize fm_second_w hg ri 0 wa1 oe1 mem (lN q0) 1 kind 1 = o0 at hS0 ⊢
              obtain ⟨v0, ra0, re0⟩ := x0
              obtain ⟨w0, c0, wa0, oe00⟩ := o0
              obtain ⟨hS0, hoz⟩ := hS0
              have hoz : oe00 = 0 ∨ oe00 = 1 := hoz
              rcases hS0 with ⟨s1, s2, s3, s4, s5, s6⟩ | ⟨s1, s2⟩ | ⟨R0, hR0, hR2, s1, s2⟩ | ⟨R0, hR0, s1, s2, s3⟩
              · dsimp only at s1 s2 s3 s4 s5 s6
                subst s1; subst s2
                rw [ent_neg (sf_neg kind)]
                simp only [if_pos (sf_neg kind), if_neg (rs_ne kind)]
                exact ⟨Or.inl ⟨rfl, rfl, s3, s4, s5, s6⟩, hoz⟩
              · dsimp only at s1 s2
                subst s1; subst s2
                rw [ent_neg (nm_neg kind)]
                simp only [if_pos (nm_neg kind), if_neg (raise_ne kind)]
                exact FR_nm hoz
              · dsimp only at s1 s2
                subst s1; subst s2
                rw [ent_out hR2 (by omega)]
                simp only [if_pos (nm_neg kind), if_neg (raise_ne kind)]
                exact FR_nm hoz
              · dsimp only at s1 s2 s3
                subst s1; subst s2; subst s3
                obtain ⟨N0, hN0, e0⟩ := mem_nI mem (R0 / 4)
                rw [ent_in hR0 hN0 e0]
                simp only [ix_m hR0, e0, if_true, if_neg (l_nn (q := N0) (by omega)), goodLeaf_eq hN0, firAl hN0 hm hk, res_x hN0 (show n < 2 ^ 34 by omega), res_m hN0 (show n < 2 ^ 34 by omega), leafM]
                by_cases hst0 : fm_stands (nI N0) = 0
                · simp only [if_pos hst0, if_true]
                  exact FR_ff hoz
                · by_cases hlf0 : fm_isLeaf (nI N0) = 0
                  · simp only [if_neg hst0, if_pos hlf0, if_true, ite_self]
                    exact FR_ff hoz
                  · simp only [if_neg hst0, if_neg hlf0, if_true, if_neg i10]
                    by_cases h40 : fm_userFits (nI N0) (usrM mode) kind (sumM ri mode) = 0
                    · simp only [if_pos h40, if_true]
                      exact FR_ff hoz
                    · simp only [if_neg h40]
                      by_cases ha : fm_allows (nI N0) kind (lxM ri mode) = 0
                      · simp only [if_pos ha, if_true]
                        exact FR_ff hoz
                      · simp only [if_neg ha, if_neg i10]
                        exact FR_r hoz (res_lt hN0)
            · simp only [tabM, leafM, if_neg hst, if_pos hlf, if_pos h4, if_pos h6, if_neg h7, if_true, if_neg i10]
              exact FR_ff hoe
          · simp only [tabM, leafM, if_neg hst, if_pos hlf, if_pos h4, if_neg h6, if_true, if_neg i10]
            exact FR_ff hoe
        · simp only [tabM, leafM, if_neg hst, if_pos hlf, if_neg h4, if_true, if_neg i10]
          exact FR_ff hoe
      · simp only [tabM, leafM, if_neg hst, if_neg hlf, if_true, if_neg i10]
        by_cases hw : ((nI N1 >>> ((10 : Int32) &&& 31)) &&& 1023) = 0
        · simp only [if_pos hw, if_neg i10]
          by_cases h4 : fm_userFits (nI N1) (usrM mode) kind (sumM ri mode) = 0
          · simp only [if_pos h4, if_true]
            exact FR_ff hoe
          · simp only [if_neg h4]
            by_cases ha : fm_allows (nI N1) kind (lxM ri mode) = 0
            · simp only [if_pos ha, if_true]
              exact FR_ff hoe
            · simp only [if_neg ha, if_neg i10]
              exact FR_r hoe (res_lt hN1)
        · simp only [if_neg hw, if_true]
          exact FR_ff hoe
theorem th_h {hg ri : Int32} {ra : Int64} {re : Int32} {mem : Nat → Int32} {mode kind oe : Int32} {n : Nat} (hn : n < 2 ^ 62) (hv : fx_isVirtual mode = 0) : fx_throughSecond hg ri ra re mem mode kind (lN n) oe = (lN n, ra, re) := by
  unfold fx_throughSecond
  simp only [if_neg (l_nn (q := n) hn), if_pos hv, if_true]
set_option maxHeartbeats 4000000 in
set_option maxRecDepth 100000 in
theorem F1h {hg ri : Int32} {ra wa : Int64} {re oe0 : Int32} {mem : Nat → Int32} {mode kind root : Int32} {n : Nat} (h00 : oe0 = 0 ∨ oe0 = 1) (hn : n < 2 ^ 32) (hm : mode = 0 ∨ mode = 1 ∨ mode = 2 ∨ mode = 3) (hk : kind = 0 ∨ kind = 1 ∨ kind = 2 ∨ kind = 3) (hv : fx_isVirtual mode = 0) (h : root < 0) : FR kind (fx_walkFirst hg ri ra re mem mode kind (lN n) root) (fm_first0 0 wa oe0 mem root (lN n) kind (usrM mode) (sumM ri mode) (lxM ri mode)) := by
  unfold fx_walkFirst fm_first0
  rw [if_pos h]
  obtain ⟨f, hf, ef⟩ := root_n1 root
  rw [ef, up_x hf (by omega), up_m1 hf (by omega), Nat.mod_eq_of_lt (show n / 4194304 < 1024 by omega)]
  have hq1 : f * 4096 + 4 * (n / 4194304) < 2 ^ 34 := by omega
  generalize f * 4096 + 4 * (n / 4194304) = q1 at hq1 ⊢
  rw [th_h (by omega) hv]
  by_cases hR : q1 < 262144
  · rw [im_in hR]
    obtain ⟨N1, hN1, e1⟩ := mem_nI mem (q1 / 4)
    rw [ent_in hR hN1 e1]
    simp only [ix_m hR, e1, if_true, if_neg (l_nn (q := N1) (by omega)), isTable_eq hN1, goodLeaf_eq hN1, firAl hN1 hm hk, lo_x hN1 (show n < 2 ^ 62 by omega), lo_m hN1 (show n < 2 ^ 62 by omega), res_x hN1 (show n < 2 ^ 34 by omega), res_m hN1 (show n < 2 ^ 34 by omega)]
    have hq0 : N1 / 1024 * 4096 + 4 * (n / 4096 % 1024) < 2 ^ 34 := by omega
    generalize N1 / 1024 * 4096 + 4 * (n / 4096 % 1024) = q0 at hq0 ⊢
    by_cases hst : fm_stands (nI N1) = 0
    · simp only [tabM, leafM, if_pos hst, if_true, if_neg i10]
      exact FR_ff h00
    · by_cases hlf : fm_isLeaf (nI N1) = 0
      · by_cases h4 : fm_isSet (nI N1) 4 = 0
        · by_cases h6 : fm_isSet (nI N1) 6 = 0
          · by_cases h7 : fm_isSet (nI N1) 7 = 0
            · simp only [tabM, leafM, if_neg hst, if_pos hlf, if_pos h4, if_pos h6, if_pos h7, if_true, if_neg i10]
              rw [th_h (by omega) hv]
              by_cases h0 : q0 < 262144
              · rw [im_in h0]
                obtain ⟨N0, hN0, e0⟩ := mem_nI mem (q0 / 4)
                rw [ent_in h0 hN0 e0]
                simp only [ix_m h0, e0, if_true, if_neg (l_nn (q := N0) (by omega)), goodLeaf_eq hN0, firAl hN0 hm hk, res_x hN0 (show n < 2 ^ 34 by omega), res_m hN0 (show n < 2 ^ 34 by omega), leafM]
                by_cases hst0 : fm_stands (nI N0) = 0
                · simp only [if_pos hst0, if_true]
                  exact FR_ff h00
                · by_cases hlf0 : fm_isLeaf (nI N0) = 0
                  · simp only [if_neg hst0, if_pos hlf0, if_true, ite_self]
                    exact FR_ff h00
                  · simp only [if_neg hst0, if_neg hlf0, if_true, if_neg i10]
                    by_cases h40 : fm_userFits (nI N0) (usrM mode) kind (sumM ri mode) = 0
                    · simp only [if_pos h40, if_true]
                      exact FR_ff h00
                    · simp only [if_neg h40]
                      by_cases ha : fm_allows (nI N0) kind (lxM ri mode) = 0
                      · simp only [if_pos ha, if_true]
                        exact FR_ff h00
                      · simp only [if_neg ha, if_neg i10]
                        exact FR_r h00 (res_lt hN0)
              · rw [im_out h0 (by omega)]
                dsimp only
                rw [ent_out h0 (by omega)]
                simp only [if_pos (nm_neg kind), if_neg (raise_ne kind)]
                exact FR_nm h00
            · simp only [tabM, leafM, if_neg hst, if_pos hlf, if_pos h4, if_pos h6, if_neg h7, if_true, if_neg i10]
              exact FR_ff h00
          · simp only [tabM, leafM, if_neg hst, if_pos hlf, if_pos h4, if_neg h6, if_true, if_neg i10]
            exact FR_ff h00
        · simp only [tabM, leafM, if_neg hst, if_pos hlf, if_neg h4, if_true, if_neg i10]
          exact FR_ff h00
      · simp only [tabM, leafM, if_neg hst, if_neg hlf, if_true, if_neg i10]
        by_cases hw : ((nI N1 >>> ((10 : Int32) &&& 31)) &&& 1023) = 0
        · simp only [if_pos hw, if_neg i10]
          by_cases h4 : fm_userFits (nI N1) (usrM mode) kind (sumM ri mode) = 0
          · simp only [if_pos h4, if_true]
            exact FR_ff h00
          · simp only [if_neg h4]
            by_cases ha : fm_allows (nI N1) kind (lxM ri mode) = 0
            · simp only [if_pos ha, if_true]
              exact FR_ff h00
            · simp only [if_neg ha, if_neg i10]
              exact FR_r h00 (res_lt hN1)
        · simp only [if_neg hw, if_true]
          exact FR_ff h00
  · rw [im_out hR (by omega)]
    dsimp only
    rw [ent_out hR (by omega)]
    simp only [if_pos (nm_neg kind), if_neg (raise_ne kind)]
    exact FR_nm h00
