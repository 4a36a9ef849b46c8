/-! places and results as plain numbers -/
theorem n_ushr {n k : Nat} (hn : n < 2 ^ 62) (hk : k < 64) : jlushr (lN n) (nI k) = lN (n / 2 ^ k) := wb_shr (by omega) hk
theorem n_shl (n : Nat) {k : Nat} (hk : k < 64) : jlshl (lN n) (nI k) = lN (n * 2 ^ k) := wb_shl n hk
theorem n_sar {n k : Nat} (hn : n < 2 ^ 62) (hk : k < 64) : jlshr (lN n) (nI k) = lN (n / 2 ^ k) := by
  unfold jlshr
  rw [wb_c k hk]
  exact pf_shr (by rw [wb_tb, wb_sm k hk, BitVec.toNat_ofNat]; exact Nat.mod_eq_of_lt (by omega)) hn
theorem n_mask10 {n : Nat} (hn : n < 2 ^ 62) : lN n &&& 1023 = lN (n % 1024) := wb_mask (k := 10) (by omega) (by decide)
theorem n_mask12 {n : Nat} (hn : n < 2 ^ 62) : lN n &&& 4095 = lN (n % 4096) := wb_mask (k := 12) (by omega) (by decide)
theorem n_mask22 {n : Nat} (hn : n < 2 ^ 62) : lN n &&& 4194303 = lN (n % 4194304) := wb_mask (k := 22) (by omega) (by decide)
theorem i_ushr10 {N : Nat} (hN : N < 2 ^ 32) : jiushr (nI N) 10 = nI (N / 1024) := pk_ushrN hN 10 10 (by decide)
theorem i_l {k : Nat} (h : k < 2 ^ 31) : (nI k).toInt64 = lN k := nI_l h
theorem root_n (hg : Int32) : ∃ f : Nat, f < 4194304 ∧ hg &&& 4194300 = nI f := by
  obtain ⟨N, hN, rfl⟩ := wb_of32 hg
  refine ⟨N &&& 4194300, Nat.lt_of_le_of_lt Nat.and_le_right (by decide), ?_⟩
  exact nx_and N 4194300
theorem root_n1 (hg : Int32) : ∃ f : Nat, f < 4194304 ∧ hg &&& 4194303 = nI f := by
  obtain ⟨N, hN, rfl⟩ := wb_of32 hg
  refine ⟨N &&& 4194303, Nat.lt_of_le_of_lt Nat.and_le_right (by decide), ?_⟩
  exact nx_and N 4194303
theorem up_x {f n : Nat} (hf : f < 4194304) (hn : n < 2 ^ 34) : fx_upperEntry (nI f) (lN n) = lN (f * 4096 + 4 * (n / 4194304)) := by
  unfold fx_upperEntry
  rw [show (22 : Int32) = nI 22 from rfl, n_ushr (by omega) (by decide), i_l (by omega), show (4096 : Int64) = lN 4096 from rfl, show (4 : Int64) = lN 4 from rfl, lN_mul, lN_mul, lN_add]
theorem tb_m {f : Nat} (hf : f < 4194304) : jlshl ((nI f).toInt64) 12 = lN (f * 4096) := by
  rw [show (12 : Int32) = nI 12 from rfl, i_l (by omega), n_shl _ (by decide)]
theorem up_m {f n : Nat} (hf : f < 4194304) (hn : n < 2 ^ 62) : jlshl ((nI f).toInt64) 12 + 4 * (jlshr (lN n) 22 &&& 4095) = lN (f * 4096 + 4 * (n / 4194304 % 4096)) := by
  rw [tb_m hf, show (22 : Int32) = nI 22 from rfl, n_sar hn (by decide), n_mask12 (by omega), show (4 : Int64) = lN 4 from rfl, lN_mul, lN_add]
theorem up_m1 {f n : Nat} (hf : f < 4194304) (hn : n < 2 ^ 62) : jlshl ((nI f).toInt64) 12 + 4 * (jlshr (lN n) 22 &&& 1023) = lN (f * 4096 + 4 * (n / 4194304 % 1024)) := by
  rw [tb_m hf, show (22 : Int32) = nI 22 from rfl, n_sar hn (by decide), n_mask10 (by omega), show (4 : Int64) = lN 4 from rfl, lN_mul, lN_add]
theorem lo_x {N n : Nat} (hN : N < 2 ^ 32) (hn : n < 2 ^ 62) : fx_lowerEntry (lN N) (lN n) = lN (N / 1024 * 4096 + 4 * (n / 4096 % 1024)) := by
  unfold fx_lowerEntry
  rw [show (10 : Int32) = nI 10 from rfl, show (12 : Int32) = nI 12 from rfl, n_ushr (by omega) (by decide), n_ushr (by omega) (by decide), n_mask10 (by omega), show (4096 : Int64) = lN 4096 from rfl, show (4 : Int64) = lN 4 from rfl, lN_mul, lN_mul, lN_add]
theorem lo_m {N n : Nat} (hN : N < 2 ^ 32) (hn : n < 2 ^ 62) : jlshl ((jiushr (nI N) 10).toInt64) 12 + 4 * (jlshr (lN n) 12 &&& 1023) = lN (N / 1024 * 4096 + 4 * (n / 4096 % 1024)) := by
  rw [i_ushr10 hN, tb_m (by omega), show (12 : Int32) = nI 12 from rfl, n_sar hn (by decide), n_mask10 (by omega), show (4 : Int64) = lN 4 from rfl, lN_mul, lN_add]
theorem not_mask {a k p : Nat} {M : Int64} (hp : 2 ^ k = p) (hk : k < 62) (ha : a < 2 ^ 62) (hM : ∀ i, i < 64 → M.toBitVec.getLsbD i = decide (k ≤ i)) : lN a &&& M = lN (a / p * p) := by
  subst hp
  apply wb_inj
  rw [Int64.toBitVec_and, wb_tb, wb_tb]
  apply BitVec.eq_of_getLsbD_eq
  intro i hi
  rw [BitVec.getLsbD_and, hM i hi, BitVec.getLsbD_ofNat, BitVec.getLsbD_ofNat, ← Nat.shiftLeft_eq, Nat.testBit_shiftLeft, Nat.testBit_div_two_pow]
  rcases Nat.lt_or_ge i k with h | h
  · simp [Nat.not_le.mpr h]
  · have : i - k + k = i := by omega
    simp [h, this]
theorem m12 : ∀ i, i < 64 → ((4095 : Int64) ^^^ (-1)).toBitVec.getLsbD i = decide (12 ≤ i) := by decide +kernel
theorem m22 : ∀ i, i < 64 → ((4194303 : Int64) ^^^ (-1)).toBitVec.getLsbD i = decide (22 ≤ i) := by decide +kernel
theorem m10 : ∀ i, i < 64 → (-1024 : Int64).toBitVec.getLsbD i = decide (10 ≤ i) := by decide +kernel
def resN (N : Nat) (great : Prop) (n : Nat) [Decidable great] : Nat := if great then (N / 1048576 * 1024 + n / 4096 % 1024) * 4096 + n % 4096 else N / 1024 * 4096 + n % 4096
theorem res_x {N n : Nat} (hN : N < 2 ^ 32) (hn : n < 2 ^ 34) (g : Int32) : fx_result (lN N) g (lN n) = lN (resN N (¬ g = 0) n) := by
  unfold fx_result resN
  rw [show (10 : Int32) = nI 10 from rfl, n_ushr (by omega) (by decide), show (4096 : Int64) = lN 4096 from rfl, lN_mul]
  by_cases h : g = 0
  · rw [if_pos h, if_neg (by simp [h]), not_mask (k := 12) (p := 4096) rfl (by decide) (by omega) m12, n_mask12 (by omega), g_or (k := 12) rfl (by omega) (by omega)]
    exact congrArg lN (by omega)
  · rw [if_neg h, if_pos h, not_mask (k := 22) (p := 4194304) rfl (by decide) (by omega) m22, n_mask22 (by omega), g_or (k := 22) rfl (by omega) (by omega)]
    exact congrArg lN (by omega)
theorem res_m {N n : Nat} (hN : N < 2 ^ 32) (hn : n < 2 ^ 34) (g : Int32) : fm_result (nI N) g (lN n) = lN (resN N (¬ g = 0) n) := by
  unfold fm_result resN
  rw [i_ushr10 hN, i_l (by omega), show (12 : Int32) = nI 12 from rfl, n_sar (by omega) (by decide), n_mask10 (by omega), n_mask12 (by omega)]
  by_cases h : g = 0
  · rw [if_pos h, if_neg (by simp [h]), n_shl _ (by decide), g_or (k := 12) rfl (by omega) (by omega)]
  · rw [if_neg h, if_pos h, not_mask (k := 10) (p := 1024) rfl (by decide) (by omega) m10, g_or (k := 10) rfl (by omega) (by omega), n_shl _ (by decide), g_or (k := 12) rfl (by omega) (by omega)]
    exact congrArg lN (by omega)
theorem res_lt {N n : Nat} {g : Prop} [Decidable g] (hN : N < 2 ^ 32) : resN N g n < 2 ^ 34 := by
  unfold resN
  split <;> omega
theorem ix_x {q : Nat} (h : q < 262144) : ((lN q).toInt32 / 4).toNatClampNeg = q / 4 := by
  rw [lN_i, i4, pk_div (by omega) (by decide) (by decide)]
  exact nI_clamp (by omega)
theorem ix_m {q : Nat} (h : q < 262144) : ((lN q / 4).toInt32).toNatClampNeg = q / 4 := by
  rw [show (4 : Int64) = lN 4 from rfl, pk_lDiv (by omega) (by decide) (by decide), lN_i]
  exact nI_clamp (by omega)
theorem l_lt {q k : Nat} (hq : q < 2 ^ 62) (hk : k < 2 ^ 62) : (lN q < lN k) ↔ q < k := pk_lLT (by omega) (by omega)
theorem l_mem {q : Nat} (hq : q < 2 ^ 62) : (lN q < 262144) ↔ q < 262144 := l_lt (k := 262144) hq (by decide)
theorem l_nn {q : Nat} (hq : q < 2 ^ 62) : ¬ lN q < 0 := fun h => absurd ((l_lt (k := 0) hq (by decide)).mp h) (by omega)
theorem raise_ne (kind : Int32) : ¬ fm_raise kind 1 5 7 = 0 := by
  unfold fm_raise
  split
  · decide
  · split <;> decide
theorem vm_in {q : Nat} {code kind : Int32} {o : Int64 × Int32} {z2 : Int64} (hq : q < 2 ^ 62) (eo : o = fm_inMemory code kind (lN q)) (e2 : z2 = o.1) (hc : o.2 = 0) : vp_in ((z2 / 4).toInt32) 65536 := by
  subst e2
  subst eo
  unfold fm_inMemory at hc ⊢
  by_cases h : lN q < 262144
  · rw [if_pos h] at hc ⊢
    have hm := (l_mem hq).mp h
    show vp_in ((lN q / 4).toInt32) 65536
    rw [show (4 : Int64) = lN 4 from rfl, pk_lDiv (by omega) (by decide) (by decide), lN_i]
    exact vp_in_nI (by omega) (by decide)
  · rw [if_neg h] at hc
    exact absurd hc (raise_ne kind)
