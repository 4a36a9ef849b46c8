/-! an answer of the reference's second stage is a place of memory -/
theorem im_in' {kind code : Int32} {q : Nat} (hq : q < 262144) : fm_inMemory code kind (lN q) = (lN q, code) := by
  unfold fm_inMemory
  rw [if_pos ((l_mem (by omega)).mpr hq)]
theorem im_out' {kind code : Int32} {q : Nat} (hq : ¬ q < 262144) (h2 : q < 2 ^ 62) : fm_inMemory code kind (lN q) = (lN q, fm_raise kind 1 5 7) := by
  unfold fm_inMemory
  rw [if_neg (fun h => hq ((l_mem h2).mp h))]
theorem rs_ne' (kind : Int32) : ¬ fm_raise kind 20 21 23 = 0 := by
  unfold fm_raise
  split
  · decide
  · split <;> decide
def InM (o : Int64 × Int32 × Int64 × Int32) : Prop := o.2.1 = 0 → ∃ q : Nat, q < 262144 ∧ o.1 = lN q
theorem InM_c {z wa : Int64} {c oe : Int32} (h : ¬ c = 0) : InM (z, c, wa, oe) := fun q => absurd q h
theorem InM_r {kind code : Int32} {R : Nat} {wa : Int64} {oe0 : Int32} (hR : R < 2 ^ 34) : InM ((fm_inMemory code kind (lN R)).1, (fm_inMemory code kind (lN R)).2, wa, oe0) := by
  by_cases h : R < 262144
  · rw [im_in' h]; exact fun _ => ⟨R, h, rfl⟩
  · rw [im_out' h (by omega)]; exact InM_c (raise_ne kind)
set_option maxHeartbeats 4000000 in
set_option maxRecDepth 100000 in
theorem sec_in {hg ri code : Int32} {wa : Int64} {oe0 : Int32} {mem : Nat → Int32} {k' kind oe : Int32} {n : Nat} (hn : n < 2 ^ 34) : InM (fm_second_w hg ri code wa oe0 mem (lN n) k' kind oe) := by
  unfold fm_second_w
  by_cases h : hg < 0
  · rw [if_pos h]
    obtain ⟨f, hf, ef⟩ := root_n hg
    rw [ef, up_m hf (by omega)]
    have hq1 : f * 4096 + 4 * (n / 4194304 % 4096) < 2 ^ 35 := by omega
    generalize f * 4096 + 4 * (n / 4194304 % 4096) = q1 at hq1 ⊢
    by_cases h1 : q1 < 262144
    · obtain ⟨N1, hN1, e1⟩ := wb_of32 (mem (q1 / 4))
      rw [im_in' h1]
      by_cases hc : code = 0
      · subst hc
        simp only [ix_m h1, e1, if_true, lo_m hN1 (show n < 2 ^ 62 by omega), res_m hN1 hn]
        have hq0 : N1 / 1024 * 4096 + 4 * (n / 4096 % 1024) < 2 ^ 35 := by omega
        generalize N1 / 1024 * 4096 + 4 * (n / 4096 % 1024) = q0 at hq0 ⊢
        by_cases hst : fm_stands (nI N1) = 0
        · simp only [if_pos hst]
          exact InM_c (rs_ne' kind)
        · by_cases hlf : fm_isLeaf (nI N1) = 0
          · by_cases h4 : fm_isSet (nI N1) 4 = 0
            · by_cases h6 : fm_isSet (nI N1) 6 = 0
              · by_cases h7 : fm_isSet (nI N1) 7 = 0
                · simp only [if_neg hst, if_pos hlf, if_pos h4, if_pos h6, if_pos h7]
                  by_cases hz : q0 < 262144
                  · obtain ⟨N0, hN0, e0⟩ := wb_of32 (mem (q0 / 4))
                    rw [im_in' hz]
                    simp only [ix_m hz, e0, if_true, res_m hN0 hn]
                    by_cases hst0 : fm_stands (nI N0) = 0
                    · simp only [if_pos hst0]
                      exact InM_c (rs_ne' kind)
                    · by_cases hlf0 : fm_isLeaf (nI N0) = 0
                      · simp only [if_neg hst0, if_pos hlf0, ite_self]
                        exact InM_c (rs_ne' kind)
                      · simp only [if_neg hst0, if_neg hlf0]
                        by_cases h40 : fm_isSet (nI N0) 4 = 0
                        · simp only [if_pos h40]
                          exact InM_c (rs_ne' kind)
                        · simp only [if_neg h40]
                          by_cases ha : fm_allows (nI N0) k' (if oe = 0 then if fm_has ri 1 = 0 then 0 else 1 else 0 : Int32) = 0
                          · simp only [if_pos ha]
                            exact InM_c (rs_ne' kind)
                          · simp only [if_neg ha]
                            exact InM_r (res_lt hN0)
                  · rw [im_out' hz (by omega)]
                    simp only [if_neg (raise_ne kind)]
                    exact InM_c (raise_ne kind)
                · simp only [if_neg hst, if_pos hlf, if_pos h4, if_pos h6, if_neg h7]
                  exact InM_c (rs_ne' kind)
              · simp only [if_neg hst, if_pos hlf, if_pos h4, if_neg h6]
                exact InM_c (rs_ne' kind)
            · simp only [if_neg hst, if_pos hlf, if_neg h4]
              exact InM_c (rs_ne' kind)
          · simp only [if_neg hst, if_neg hlf]
            by_cases hw : ((nI N1 >>> ((10 : Int32) &&& 31)) &&& 1023) = 0
            · simp only [if_pos hw, if_neg (show ¬ (1 : Int32) = 0 by decide)]
              by_cases h4 : fm_isSet (nI N1) 4 = 0
              · simp only [if_pos h4]
                exact InM_c (rs_ne' kind)
              · simp only [if_neg h4]
                by_cases ha : fm_allows (nI N1) k' (if oe = 0 then if fm_has ri 1 = 0 then 0 else 1 else 0 : Int32) = 0
                · simp only [if_pos ha]
                  exact InM_c (rs_ne' kind)
                · simp only [if_neg ha]
                  exact InM_r (res_lt hN1)
            · simp only [if_neg hw, if_true]
              exact InM_c (rs_ne' kind)
      · simp only [if_neg hc]
        exact InM_c hc
    · rw [im_out' h1 (by omega)]
      simp only [if_neg (raise_ne kind)]
      exact InM_c (raise_ne kind)
  · rw [if_neg h]
    exact InM_r hn
theorem vg_in {z2 : Int64} {o : Int64 × Int32 × Int64 × Int32} (h : InM o) (e2 : z2 = o.1) (hc : o.2.1 = 0) : vp_in ((z2 / 4).toInt32) 65536 := by
  obtain ⟨q, hq, e⟩ := h hc
  rw [e2, e, show (4 : Int64) = lN 4 from rfl, pk_lDiv (by omega) (by decide) (by decide), lN_i]
  exact vp_in_nI (by omega) (by decide)
theorem vg_1 {t z z2 a0 : Int64} {r hg ri code kind oe : Int32} {wa : Int64} {mem : Nat → Int32} {o : Int64 × Int32 × Int64 × Int32} (et : t = jlshl ((r &&& 4194303).toInt64) 12) (ez : z = t + 4 * (jlshr a0 22 &&& 1023)) (eo : o = fm_second_w hg ri code wa oe mem z 1 kind 1) (e2 : z2 = o.1) (hc : o.2.1 = 0) : vp_in ((z2 / 4).toInt32) 65536 := by
  obtain ⟨f, hf, ef⟩ := root_n1 r
  obtain ⟨k, hk, ek⟩ := l_m10 (jlshr a0 22)
  rw [ef, tb_m hf] at et
  have ez := z_n et ek ez
  rw [ez] at eo
  exact vg_in (by rw [eo]; exact sec_in (by omega)) e2 hc
theorem vg_0 {t z z2 a0 : Int64} {en hg ri code kind oe : Int32} {wa : Int64} {mem : Nat → Int32} {o : Int64 × Int32 × Int64 × Int32} (et : t = jlshl ((jiushr en 10).toInt64) 12) (ez : z = t + 4 * (jlshr a0 12 &&& 1023)) (eo : o = fm_second_w hg ri code wa oe mem z 1 kind 1) (e2 : z2 = o.1) (hc : o.2.1 = 0) : vp_in ((z2 / 4).toInt32) 65536 := by
  obtain ⟨N, hN, rfl⟩ := wb_of32 en
  obtain ⟨k, hk, ek⟩ := l_m10 (jlshr a0 12)
  rw [i_ushr10 hN, tb_m (by omega)] at et
  have ez := z_n et ek ez
  rw [ez] at eo
  exact vg_in (by rw [eo]; exact sec_in (by omega)) e2 hc
