theorem adr_n (c : Int32) : ∃ n : Nat, n < 2 ^ 32 ∧ c.toInt64 &&& 4294967295 = lN n := by
  obtain ⟨n, hn, rfl⟩ := wb_of32 c
  exact ⟨n, hn, E_n hn⟩
theorem lN_ne {R : Nat} (h : R < 2 ^ 62) {v : Int64} (hv : v < 0) : ¬ lN R = v := fun e => l_nn h (by rw [e]; exact hv)
set_option maxHeartbeats 4000000 in
set_option maxRecDepth 100000 in
theorem q_tr (at' vs hg ri lp lse le re code oe : Int32) (ra fo wa : Int64) (mem : Nat → Int32) (a b c : Int32) (h : RelL lp lse le code oe fo wa) : (fx_translate at' vs hg ri lp lse le ra re mem a b c).1 = (fm_translate at' vs hg ri code fo wa oe mem a b c).1 ∧ RelL (fx_translate at' vs hg ri lp lse le ra re mem a b c).2.1 (fx_translate at' vs hg ri lp lse le ra re mem a b c).2.2.1 (fx_translate at' vs hg ri lp lse le ra re mem a b c).2.2.2.1 (fm_translate at' vs hg ri code fo wa oe mem a b c).2.1 (fm_translate at' vs hg ri code fo wa oe mem a b c).2.2.2.2 (fm_translate at' vs hg ri code fo wa oe mem a b c).2.2.1 (fm_translate at' vs hg ri code fo wa oe mem a b c).2.2.2.1 := by
  unfold fx_translate fm_translate
  rw [known_eq]
  by_cases hkn : fm_isKind a b = 0
  · simp only [if_pos hkn]
    exact ⟨trivial, h⟩
  · simp only [if_neg hkn]
    obtain ⟨hm, hk⟩ := kn_of (a := a) (b := b) (by rw [known_eq]; exact hkn)
    obtain ⟨n, hn, en⟩ := adr_n c
    have hL := LD (at' := at') (vs := vs) (hg := hg) (ri := ri) (ra := ra) (re := re) (mem := mem) hn hm hk en
    rw [en]
    generalize fx_lead at' vs hg ri ra re mem a b (lN n) = x at hL ⊢
    generalize fm_go at' vs hg ri mem a b c = g at hL ⊢
    obtain ⟨v, ra', re'⟩ := x
    obtain ⟨gc, gf, gw, go⟩ := g
    obtain ⟨hL, hoe⟩ := hL
    have hoe : go = 0 ∨ go = 1 := hoe
    rcases hL with ⟨s1, s2, s3, s4, ⟨n0, hn0, s5⟩, s6⟩ | ⟨s1, s2⟩ | ⟨s1, s2⟩ | ⟨R, hR, s1, s2, s3⟩
    · dsimp only at s1 s2 s3 s4 s5 s6 ⊢
      subst s1; subst s2; subst s3; subst s4
      simp only [if_pos (sf_neg b), if_true, if_neg i10]
      refine ⟨ng_sf b, (mp_no (rs_ne b) _).symm, ?_, (me_sf b _).symm, hoe⟩
      rw [m2_sf, s5, show (2 : Int32) = nI 2 from rfl, n_ushr hn0 (by decide), n_sar hn0 (by decide)]
    · dsimp only at s1 s2 ⊢
      subst s1; subst s2
      simp only [if_pos (nm_neg b), if_neg (nm_sf b), if_true]
      exact ⟨ng_nm b, (mp_no (raise_ne b) _).symm, (m2_no (rn_no b).1 (rn_no b).2.1 (rn_no b).2.2 _).symm, (me_no (rn_no b).1 (rn_no b).2.1 (rn_no b).2.2 _).symm, hoe⟩
    · dsimp only at s1 s2 ⊢
      subst s1; subst s2
      simp only [if_pos (ff_neg b), if_neg (ff_sf b), if_true]
      exact ⟨ng_ff b, (mp_no (rf_ne b) _).symm, (m2_no (rf_no b).1 (rf_no b).2.1 (rf_no b).2.2 _).symm, (me_no (rf_no b).1 (rf_no b).2.1 (rf_no b).2.2 _).symm, hoe⟩
    · dsimp only at s1 s2 s3 ⊢
      subst s1; subst s2; subst s3
      simp only [if_neg (l_nn (q := R) (by omega)), if_neg (lN_ne (R := R) (by omega) (sf_neg b)), if_true]
      refine ⟨trivial, ?_, (m2_no (by decide) (by decide) (by decide) _).symm, (me_no (by decide) (by decide) (by decide) _).symm, hoe⟩
      unfold fm_place
      rw [if_pos rfl]
/-! pages -/
theorem asked_n {f i : Nat} (hi : i < 2 ^ 31) : lN f + (nI i).toInt64 * 4096 = lN (f + i * 4096) := by
  rw [i_l hi, show (4096 : Int64) = lN 4096 from rfl, lN_mul, lN_add]
theorem over_n {m : Nat} (h : m < 2 ^ 62) : (4294967295 < lN m) ↔ 4294967295 < m := l_lt (q := 4294967295) (by decide) h
set_option maxRecDepth 100000 in
theorem pl_over (at' vs hg ri : Int32) (mem : Nat → Int32) (a b : Int32) (f : Nat) (hf : f < 2 ^ 32) : ∀ (N i : Nat) (cn : Int32) (ra : Int64) (re : Int32), i + N ≤ 1024 → 4294967295 < f + i * 4096 → (fx_pl at' vs hg ri mem a b (lN f) N (nI i) cn ra re).1 = cn := by
  intro N
  induction N with
  | zero => intro i cn ra re _ _; rfl
  | succ N ih =>
    intro i cn ra re hi ho
    rw [fx_pl_s, asked_n (by omega), if_pos ((over_n (by omega)).mpr ho), nI_1]
    exact ih (i + 1) cn ra re (by omega) (by omega)
theorem LR_zero {kind : Int32} {x : Int64 × Int64 × Int32} {g : Int32 × Int64 × Int64 × Int32} (h : LR kind x g) : (x.1 < 0 ∧ ¬ g.1 = 0) ∨ (¬ x.1 < 0 ∧ g.1 = 0) := by
  rcases h.1 with ⟨s1, s2, -⟩ | ⟨s1, s2⟩ | ⟨s1, s2⟩ | ⟨R, hR, s1, s2, -⟩
  · exact Or.inl ⟨by rw [s1]; exact sf_neg kind, by rw [s2]; exact rs_ne kind⟩
  · exact Or.inl ⟨by rw [s1]; exact nm_neg kind, by rw [s2]; exact raise_ne kind⟩
  · exact Or.inl ⟨by rw [s1]; exact ff_neg kind, by rw [s2]; exact rf_ne kind⟩
  · exact Or.inr ⟨by rw [s1]; exact l_nn (by omega), s2⟩
set_option maxRecDepth 100000 in
theorem pl_eq (at' vs hg ri : Int32) (mem : Nat → Int32) {a b : Int32} (hm : a = 0 ∨ a = 1 ∨ a = 2 ∨ a = 3) (hk : b = 0 ∨ b = 1 ∨ b = 2 ∨ b = 3) (f : Nat) (hf : f < 2 ^ 32) (n : Int32) : ∀ (N i : Nat) (cn : Int32) (ra : Int64) (re : Int32), i + N ≤ 1024 → n = nI (i + N) → (fx_pl at' vs hg ri mem a b (lN f) N (nI i) cn ra re).1 = fm_pl at' vs hg ri mem a b n (N + 1) (nI i) cn (lN (f + i * 4096)) := by
  intro N
  induction N with
  | zero =>
    intro i cn ra re hi en
    rw [fm_pl_s, if_pos (by rw [en]; exact nI_le (by omega) (by omega))]
    rfl
  | succ N ih =>
    intro i cn ra re hi en
    have hn1 : ¬ n ≤ nI i := by rw [en]; exact nI_ge (by omega) (by omega)
    rw [fx_pl_s, asked_n (by omega), fm_pl_s (f := N + 1), if_neg hn1]
    by_cases ho : 4294967295 < f + i * 4096
    · rw [if_pos ((over_n (by omega)).mpr ho), if_pos ((over_n (by omega)).mpr ho), nI_1]
      exact pl_over at' vs hg ri mem a b f hf N (i + 1) cn ra re (by omega) (by omega)
    · rw [if_neg (fun q => ho ((over_n (by omega)).mp q)), if_neg (fun q => ho ((over_n (by omega)).mp q)), nI_1]
      have ea : (lN (f + i * 4096)).toInt32.toInt64 &&& 4294967295 = lN (f + i * 4096) := by
        rw [lN_i]; exact E_n (by omega)
      have hL := LR_zero (LD (at' := at') (vs := vs) (hg := hg) (ri := ri) (ra := ra) (re := re) (mem := mem) (by omega) hm hk ea)
      rw [show lN (f + i * 4096) + 4096 = lN (f + (i + 1) * 4096) from by rw [show (4096 : Int64) = lN 4096 from rfl, lN_add]; exact congrArg lN (by omega)]
      rcases hL with ⟨h1, h2⟩ | ⟨h1, h2⟩
      · rw [if_pos h1, if_neg h2]
        exact ih (i + 1) cn _ _ (by omega) (by rw [en]; exact congrArg nI (by omega))
      · rw [if_neg h1, if_pos h2]
        exact ih (i + 1) (cn + 1) _ _ (by omega) (by rw [en]; exact congrArg nI (by omega))
set_option maxRecDepth 100000 in
theorem q_pg (at' vs hg ri re code oe : Int32) (ra fo wa : Int64) (mem : Nat → Int32) (a b c n : Int32) : (fx_pages at' vs hg ri ra re mem a b c n).1 = (fm_pages at' vs hg ri code fo wa oe mem a b c n).1 := by
  unfold fx_pages fm_pages
  rw [known_eq]
  by_cases hkn : fm_isKind a b = 0
  · simp only [if_pos hkn, ite_self]
  · simp only [if_neg hkn]
    by_cases h1 : n < 1
    · simp only [if_pos h1]
    · by_cases h2 : 1024 < n
      · have h3 : ¬ n ≤ 1024 := Int32.not_le.mpr h2
        simp only [if_neg h1, if_pos h2, if_neg h3]
      · have h3 : n ≤ 1024 := Int32.not_lt.mp h2
        simp only [if_neg h1, if_neg h2, if_pos h3]
        obtain ⟨hm, hk⟩ := kn_of (a := a) (b := b) (by rw [known_eq]; exact hkn)
        obtain ⟨N, hN1, hN2, eN⟩ := pg_N h1 h2
        obtain ⟨f, hf, ef⟩ := adr_n c
        have e1 : n.toNatClampNeg = N := by rw [eN]; exact nI_clamp (by omega)
        rw [e1, ef]
        have := pl_eq at' vs hg ri mem hm hk f hf n N 0 0 ra re (by omega) (by rw [eN]; exact congrArg nI (by omega))
        rw [show f + 0 * 4096 = f by omega] at this
        exact this
