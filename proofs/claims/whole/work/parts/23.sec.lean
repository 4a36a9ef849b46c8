/-! the second stage: the class's walk and the reference's, side by side -/
theorem nm_neg (kind : Int32) : fx_noMemory kind < 0 := by
  unfold fx_noMemory
  split
  · decide
  · split <;> decide
theorem sf_neg (kind : Int32) : fx_secondFault kind < 0 := by
  unfold fx_secondFault
  split
  · decide
  · split <;> decide
theorem ff_neg (kind : Int32) : fx_firstFault kind < 0 := by
  unfold fx_firstFault
  split
  · decide
  · split <;> decide
theorem mem_nI (mem : Nat → Int32) (j : Nat) : ∃ N : Nat, N < 2 ^ 32 ∧ mem j = nI N := wb_of32 (mem j)
theorem ent_in {mem : Nat → Int32} {kind : Int32} {q N : Nat} (hq : q < 262144) (hN : N < 2 ^ 32) (e : mem (q / 4) = nI N) : fx_entryAt mem kind (lN q) = lN N := by
  unfold fx_entryAt
  rw [if_neg (l_nn (by omega)), if_pos ((l_mem (by omega)).mpr hq), ix_x hq, e, E_n hN]
theorem ent_out {mem : Nat → Int32} {kind : Int32} {q : Nat} (hq : ¬ q < 262144) (h2 : q < 2 ^ 62) : fx_entryAt mem kind (lN q) = fx_noMemory kind := by
  unfold fx_entryAt
  rw [if_neg (l_nn h2), if_neg (fun h => hq ((l_mem h2).mp h))]
theorem ent_neg {mem : Nat → Int32} {kind : Int32} {v : Int64} (h : v < 0) : fx_entryAt mem kind v = v := by
  unfold fx_entryAt
  rw [if_pos h]
theorem im_in {kind code : Int32} {q : Nat} (hq : q < 262144) : fm_inMemory code kind (lN q) = (lN q, code) := by
  unfold fm_inMemory
  rw [if_pos ((l_mem (by omega)).mpr hq)]
theorem im_out {kind code : Int32} {q : Nat} (hq : ¬ q < 262144) (h2 : q < 2 ^ 62) : fm_inMemory code kind (lN q) = (lN q, fm_raise kind 1 5 7) := by
  unfold fm_inMemory
  rw [if_neg (fun h => hq ((l_mem h2).mp h))]
/-- an outcome of the class (its value, what was refused) beside one of the reference (value, code, what was wanted) -/
def SS (kind : Int32) (x : Int64 × Int64 × Int32) (o : Int64 × Int32 × Int64 × Int32) : Prop :=
  ((x.1 = fx_secondFault kind ∧ o.2.1 = fm_raise kind 20 21 23 ∧ x.2.1 = o.2.2.1 ∧ x.2.2 = o.2.2.2 ∧ (∃ n : Nat, n < 2 ^ 62 ∧ x.2.1 = lN n) ∧ (x.2.2 = 0 ∨ x.2.2 = 1)) ∨
  (x.1 = fx_noMemory kind ∧ o.2.1 = fm_raise kind 1 5 7) ∨
  (∃ R : Nat, R < 2 ^ 34 ∧ ¬ R < 262144 ∧ x.1 = lN R ∧ o.2.1 = fm_raise kind 1 5 7) ∨
  (∃ R : Nat, R < 262144 ∧ x.1 = lN R ∧ o.1 = lN R ∧ o.2.1 = 0)) ∧ (o.2.2.2 = 0 ∨ o.2.2.2 = 1)
theorem SS_sf {kind : Int32} {n : Nat} {oe : Int32} (hn : n < 2 ^ 62) (ho : oe = 0 ∨ oe = 1) : SS kind (fx_secondFault kind, lN n, oe) (0, fm_raise kind 20 21 23, lN n, oe) := ⟨Or.inl ⟨rfl, rfl, rfl, rfl, ⟨n, hn, rfl⟩, ho⟩, ho⟩
theorem SS_nm {kind : Int32} {ra wa z : Int64} {re oe0 : Int32} (h0 : oe0 = 0 ∨ oe0 = 1) : SS kind (fx_noMemory kind, ra, re) (z, fm_raise kind 1 5 7, wa, oe0) := ⟨Or.inr (Or.inl ⟨rfl, rfl⟩), h0⟩
theorem SS_r {kind : Int32} {R : Nat} {ra wa : Int64} {re oe0 : Int32} (h0 : oe0 = 0 ∨ oe0 = 1) (hR : R < 2 ^ 34) : SS kind (lN R, ra, re) ((fm_inMemory 0 kind (lN R)).1, (fm_inMemory 0 kind (lN R)).2, wa, oe0) := by
  by_cases h : R < 262144
  · rw [im_in h]; exact ⟨Or.inr (Or.inr (Or.inr ⟨R, h, rfl, rfl, rfl⟩)), h0⟩
  · rw [im_out h (by omega)]; exact ⟨Or.inr (Or.inr (Or.inl ⟨R, hR, h, rfl, rfl⟩)), h0⟩
theorem i10 : ¬ (1 : Int32) = 0 := by decide
theorem secAl {N : Nat} (hN : N < 2 ^ 32) {ri kind oe k' : Int32} (hk : kind = 0 ∨ kind = 1 ∨ kind = 2 ∨ kind = 3) (ho : oe = 0 ∨ oe = 1) (hk' : k' = if oe = 0 then kind else 1) : fx_secondAllows ri kind (lN N) oe = if fm_isSet (nI N) 4 = 0 then 0 else if fm_allows (nI N) k' (if oe = 0 then if fm_has ri 1 = 0 then 0 else 1 else 0 : Int32) = 0 then 0 else 1 := by
  unfold fx_secondAllows
  simp only [ub_eq hN, (rt_eq ri).2.1]
  rw [← hk', grants_eq hN]
  · rcases ho with rfl | rfl
    · rw [hk', if_pos rfl]; exact hk
    · rw [hk', if_neg i10]; exact Or.inr (Or.inl rfl)
  · rcases ho with rfl | rfl
    · rw [if_pos rfl]; split
      · exact Or.inl rfl
      · exact Or.inr rfl
    · rw [if_neg i10]; exact Or.inl rfl
theorem g1 (n : Nat) (N : Nat) : resN N (¬ (1 : Int32) = 0) n = resN N True n := by unfold resN; rw [if_pos i10, if_pos trivial]
theorem g0 (n : Nat) (N : Nat) : resN N (¬ (0 : Int32) = 0) n = resN N False n := by unfold resN; rw [if_neg (by simp), if_neg (by simp)]
set_option maxHeartbeats 4000000 in
set_option maxRecDepth 100000 in
theorem S2w {hg ri : Int32} {ra wa : Int64} {re oe0 : Int32} {mem : Nat → Int32} {kind oe k' : Int32} {n : Nat} (h0 : oe0 = 0 ∨ oe0 = 1) (hn : n < 2 ^ 34) (hk : kind = 0 ∨ kind = 1 ∨ kind = 2 ∨ kind = 3) (ho : oe = 0 ∨ oe = 1) (hk' : k' = if oe = 0 then kind else 1) (h : hg < 0) : SS kind (fx_walkSecond hg ri ra re mem kind (lN n) oe) (fm_second_w hg ri 0 wa oe0 mem (lN n) k' kind oe) := by
  unfold fx_walkSecond fm_second_w
  rw [if_pos h]
  obtain ⟨f, hf, ef⟩ := root_n hg
  rw [ef, up_x hf hn, up_m hf (by omega), Nat.mod_eq_of_lt (show n / 4194304 < 4096 by omega)]
  have hq1 : f * 4096 + 4 * (n / 4194304) < 2 ^ 35 := by omega
  generalize f * 4096 + 4 * (n / 4194304) = q1 at hq1 ⊢
  by_cases h1 : q1 < 262144
  · obtain ⟨N1, hN1, e1⟩ := mem_nI mem (q1 / 4)
    rw [ent_in h1 hN1 e1, im_in h1]
    simp only [ix_m h1, e1, if_true, if_neg (l_nn (q := N1) (by omega)), isTable_eq hN1, goodLeaf_eq hN1, secAl hN1 hk ho hk', lo_x hN1 (show n < 2 ^ 62 by omega), lo_m hN1 (show n < 2 ^ 62 by omega), res_x hN1 hn, res_m hN1 hn]
    have hq0 : N1 / 1024 * 4096 + 4 * (n / 4096 % 1024) < 2 ^ 35 := by omega
    generalize N1 / 1024 * 4096 + 4 * (n / 4096 % 1024) = q0 at hq0 ⊢
    by_cases hst : fm_stands (nI N1) = 0
    · simp only [tabM, leafM, if_pos hst, if_true, if_neg i10]
      exact SS_sf (by omega) ho
    · by_cases hlf : fm_isLeaf (nI N1) = 0
      · by_cases h4 : fm_isSet (nI N1) 4 = 0
        · by_cases h6 : fm_isSet (nI N1) 6 = 0
          · by_cases h7 : fm_isSet (nI N1) 7 = 0
            · simp only [tabM, leafM, if_neg hst, if_pos hlf, if_pos h4, if_pos h6, if_pos h7, if_true, if_neg i10]
              by_cases hz : q0 < 262144
              · obtain ⟨N0, hN0, e0⟩ := mem_nI mem (q0 / 4)
                rw [ent_in hz hN0 e0, im_in hz]
                simp only [ix_m hz, e0, if_true, if_neg (l_nn (q := N0) (by omega)), goodLeaf_eq hN0, secAl hN0 hk ho hk', res_x hN0 hn, res_m hN0 hn, leafM]
                by_cases hst0 : fm_stands (nI N0) = 0
                · simp only [if_pos hst0, if_true]
                  exact SS_sf (by omega) ho
                · by_cases hlf0 : fm_isLeaf (nI N0) = 0
                  · simp only [if_neg hst0, if_pos hlf0, if_true, ite_self]
                    exact SS_sf (by omega) ho
                  · simp only [if_neg hst0, if_neg hlf0, if_true, if_neg i10]
                    by_cases h40 : fm_isSet (nI N0) 4 = 0
                    · simp only [if_pos h40, if_true]
                      exact SS_sf (by omega) ho
                    · simp only [if_neg h40]
                      by_cases ha : fm_allows (nI N0) k' (if oe = 0 then if fm_has ri 1 = 0 then 0 else 1 else 0 : Int32) = 0
                      · simp only [if_pos ha, if_true]
                        exact SS_sf (by omega) ho
                      · simp only [if_neg ha, if_neg i10]
                        exact SS_r h0 (res_lt hN0)
              · rw [ent_out hz (by omega), im_out hz (by omega)]
                simp only [if_pos (nm_neg kind), if_neg (raise_ne kind)]
                exact SS_nm h0
            · simp only [tabM, leafM, if_neg hst, if_pos hlf, if_pos h4, if_pos h6, if_neg h7, if_true, if_neg i10]
              exact SS_sf (by omega) ho
          · simp only [tabM, leafM, if_neg hst, if_pos hlf, if_pos h4, if_neg h6, if_true, if_neg i10]
            exact SS_sf (by omega) ho
        · simp only [tabM, leafM, if_neg hst, if_pos hlf, if_neg h4, if_true, if_neg i10]
          exact SS_sf (by omega) ho
      · simp only [tabM, leafM, if_neg hst, if_neg hlf, if_true, if_neg i10]
        by_cases hw : ((nI N1 >>> ((10 : Int32) &&& 31)) &&& 1023) = 0
        · simp only [if_pos hw, if_neg i10]
          by_cases h4 : fm_isSet (nI N1) 4 = 0
          · simp only [if_pos h4, if_true]
            exact SS_sf (by omega) ho
          · simp only [if_neg h4]
            by_cases ha : fm_allows (nI N1) k' (if oe = 0 then if fm_has ri 1 = 0 then 0 else 1 else 0 : Int32) = 0
            · simp only [if_pos ha, if_true]
              exact SS_sf (by omega) ho
            · simp only [if_neg ha, if_neg i10]
              exact SS_r h0 (res_lt hN1)
        · simp only [if_neg hw, if_true]
          exact SS_sf (by omega) ho
  · rw [ent_out h1 (by omega), im_out h1 (by omega)]
    simp only [if_pos (nm_neg kind), if_neg (raise_ne kind)]
    exact SS_nm h0
theorem S2v {hg ri : Int32} {ra wa : Int64} {re oe0 : Int32} {mem : Nat → Int32} {mode kind oe k' : Int32} {n : Nat} (h0 : oe0 = 0 ∨ oe0 = 1) (hn : n < 2 ^ 34) (hk : kind = 0 ∨ kind = 1 ∨ kind = 2 ∨ kind = 3) (ho : oe = 0 ∨ oe = 1) (hk' : k' = if oe = 0 then kind else 1) (hm : ¬ fx_isVirtual mode = 0) : SS kind (fx_throughSecond hg ri ra re mem mode kind (lN n) oe) (fm_second_w hg ri 0 wa oe0 mem (lN n) k' kind oe) := by
  unfold fx_throughSecond
  by_cases h : hg < 0
  · have h' : ¬ 0 ≤ hg := Int32.not_le.mpr h
    simp only [if_neg (l_nn (q := n) (by omega)), if_neg hm, if_neg h', if_neg i10]
    exact S2w h0 hn hk ho hk' h
  · have h' : 0 ≤ hg := Int32.not_lt.mp h
    simp only [if_neg (l_nn (q := n) (by omega)), if_neg hm, if_pos h', if_true]
    unfold fm_second_w
    rw [if_neg h]
    exact SS_r h0 hn
theorem S2h {hg ri : Int32} {ra wa : Int64} {re oe0 : Int32} {mem : Nat → Int32} {mode kind oe : Int32} {n : Nat} (h0 : oe0 = 0 ∨ oe0 = 1) (hn : n < 2 ^ 34) (hm : fx_isVirtual mode = 0) : SS kind (fx_throughSecond hg ri ra re mem mode kind (lN n) oe) ((fm_inMemory 0 kind (lN n)).1, (fm_inMemory 0 kind (lN n)).2, wa, oe0) := by
  unfold fx_throughSecond
  simp only [if_neg (l_nn (q := n) (by omega)), if_pos hm, if_true]
  exact SS_r h0 hn
