/-! where the reference reads its entries -/
theorem l_m12 (x : Int64) : ∃ k : Nat, k < 4096 ∧ x &&& 4095 = lN k := by
  obtain ⟨n, hn, rfl⟩ := wb_of x
  exact ⟨n % 4096, Nat.mod_lt _ (by decide), wb_mask (k := 12) hn (by decide)⟩
theorem l_m10 (x : Int64) : ∃ k : Nat, k < 1024 ∧ x &&& 1023 = lN k := by
  obtain ⟨n, hn, rfl⟩ := wb_of x
  exact ⟨n % 1024, Nat.mod_lt _ (by decide), wb_mask (k := 10) hn (by decide)⟩
theorem z_n {t z m : Int64} {a k : Nat} (et : t = lN a) (em : m = lN k) (ez : z = t + 4 * m) : z = lN (a + 4 * k) := by
  rw [ez, et, em, show (4 : Int64) = lN 4 from rfl, lN_mul, lN_add]
theorem vs_1 {t z z2 a0 : Int64} {hg code kind : Int32} {o : Int64 × Int32} (et : t = jlshl ((hg &&& 4194300).toInt64) 12) (ez : z = t + 4 * (jlshr a0 22 &&& 4095)) (eo : o = fm_inMemory code kind z) (e2 : z2 = o.1) (hc : o.2 = 0) : vp_in ((z2 / 4).toInt32) 65536 := by
  obtain ⟨f, hf, ef⟩ := root_n hg
  obtain ⟨k, hk, ek⟩ := l_m12 (jlshr a0 22)
  rw [ef, tb_m hf] at et
  have ez := z_n et ek ez
  rw [ez] at eo
  exact vm_in (by omega) eo e2 hc
theorem vs_0 {t z z2 a0 : Int64} {en code kind : Int32} {o : Int64 × Int32} (et : t = jlshl ((jiushr en 10).toInt64) 12) (ez : z = t + 4 * (jlshr a0 12 &&& 1023)) (eo : o = fm_inMemory code kind z) (e2 : z2 = o.1) (hc : o.2 = 0) : vp_in ((z2 / 4).toInt32) 65536 := by
  obtain ⟨N, hN, rfl⟩ := wb_of32 en
  obtain ⟨k, hk, ek⟩ := l_m10 (jlshr a0 12)
  rw [i_ushr10 hN, tb_m (by omega)] at et
  have ez := z_n et ek ez
  rw [ez] at eo
  exact vm_in (by omega) eo e2 hc
theorem vf_1 {t z z2 a0 : Int64} {hg code kind : Int32} {o : Int64 × Int32} (et : t = jlshl ((hg &&& 4194303).toInt64) 12) (ez : z = t + 4 * (jlshr a0 22 &&& 1023)) (eo : o = fm_inMemory code kind z) (e2 : z2 = o.1) (hc : o.2 = 0) : vp_in ((z2 / 4).toInt32) 65536 := by
  obtain ⟨f, hf, ef⟩ := root_n1 hg
  obtain ⟨k, hk, ek⟩ := l_m10 (jlshr a0 22)
  rw [ef, tb_m hf] at et
  have ez := z_n et ek ez
  rw [ez] at eo
  exact vm_in (by omega) eo e2 hc
theorem vf_0 {t z z2 a0 : Int64} {en code kind : Int32} {o : Int64 × Int32} (et : t = jlshl ((jiushr en 10).toInt64) 12) (ez : z = t + 4 * (jlshr a0 12 &&& 1023)) (eo : o = fm_inMemory code kind z) (e2 : z2 = o.1) (hc : o.2 = 0) : vp_in ((z2 / 4).toInt32) 65536 := vs_0 et ez eo e2 hc
