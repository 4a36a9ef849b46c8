/-! the whole way, and what translate tells of it -/
def LR (kind : Int32) (x : Int64 × Int64 × Int32) (g : Int32 × Int64 × Int64 × Int32) : Prop :=
  ((x.1 = fx_secondFault kind ∧ g.1 = fm_raise kind 20 21 23 ∧ x.2.1 = g.2.2.1 ∧ x.2.2 = g.2.2.2 ∧ (∃ n : Nat, n < 2 ^ 62 ∧ x.2.1 = lN n) ∧ (x.2.2 = 0 ∨ x.2.2 = 1)) ∨
  (x.1 = fx_noMemory kind ∧ g.1 = fm_raise kind 1 5 7) ∨
  (x.1 = fx_firstFault kind ∧ g.1 = fm_raise kind 12 13 15) ∨
  (∃ R : Nat, R < 262144 ∧ x.1 = lN R ∧ g.1 = 0 ∧ g.2.1 = lN R)) ∧ (g.2.2.2 = 0 ∨ g.2.2.2 = 1)
theorem neg_lt {v : Int64} (h : v < 0) : v < 262144 := Int64.lt_trans h (by decide)
theorem th_neg {hg ri : Int32} {ra v : Int64} {re : Int32} {mem : Nat → Int32} {mode kind oe : Int32} (h : v < 0) : fx_throughSecond hg ri ra re mem mode kind v oe = (v, ra, re) := by
  unfold fx_throughSecond
  simp only [if_pos h, if_true]
theorem LR_nm {kind : Int32} {ra wa z : Int64} {re oe0 : Int32} (h0 : oe0 = 0 ∨ oe0 = 1) : LR kind (fx_noMemory kind, ra, re) (fm_raise kind 1 5 7, z, wa, oe0) := ⟨Or.inr (Or.inl ⟨rfl, rfl⟩), h0⟩
theorem LR_ff {kind : Int32} {ra wa z : Int64} {re oe0 : Int32} (h0 : oe0 = 0 ∨ oe0 = 1) : LR kind (fx_firstFault kind, ra, re) (fm_raise kind 12 13 15, z, wa, oe0) := ⟨Or.inr (Or.inr (Or.inl ⟨rfl, rfl⟩)), h0⟩
/-- the last step of the class, of the reference: in memory or not -/
theorem LR_end {kind : Int32} {R : Nat} {ra wa : Int64} {re oe0 : Int32} (h0 : oe0 = 0 ∨ oe0 = 1) (hR : R < 2 ^ 62) : LR kind (if lN R < 262144 then (lN R, ra, re) else (fx_noMemory kind, ra, re)) ((fm_inMemory 0 kind (lN R)).2, (if (fm_inMemory 0 kind (lN R)).2 = 0 then (fm_inMemory 0 kind (lN R)).1 else 0), wa, oe0) := by
  by_cases h : R < 262144
  · rw [im_in h, if_pos ((l_mem hR).mpr h)]
    exact ⟨Or.inr (Or.inr (Or.inr ⟨R, h, rfl, rfl, rfl⟩)), h0⟩
  · rw [im_out h hR, if_neg (fun q => h ((l_mem hR).mp q))]
    exact LR_nm h0
theorem LR_ss {kind : Int32} {x : Int64 × Int64 × Int32} {o : Int64 × Int32 × Int64 × Int32} (h : SS kind x o) : LR kind (if x.1 < 262144 then (x.1, x.2.1, x.2.2) else (fx_noMemory kind, x.2.1, x.2.2)) (o.2.1, (if o.2.1 = 0 then o.1 else 0), o.2.2.1, o.2.2.2) := by
  obtain ⟨v, ra, re⟩ := x
  obtain ⟨w, c, wa, oe⟩ := o
  obtain ⟨h, h0⟩ := h
  have h0 : oe = 0 ∨ oe = 1 := h0
  rcases h with ⟨s1, s2, s3, s4, s5, s6⟩ | ⟨s1, s2⟩ | ⟨R, hR, hR2, s1, s2⟩ | ⟨R, hR, s1, s2, s3⟩
  · dsimp only at s1 s2 s3 s4 s5 s6 ⊢
    subst s1; subst s2
    rw [if_pos (neg_lt (sf_neg kind))]
    exact ⟨Or.inl ⟨rfl, rfl, s3, s4, s5, s6⟩, h0⟩
  · dsimp only at s1 s2 ⊢
    subst s1; subst s2
    rw [if_pos (neg_lt (nm_neg kind))]
    exact LR_nm h0
  · dsimp only at s1 s2 ⊢
    subst s1; subst s2
    rw [if_neg (fun q => hR2 ((l_mem (by omega)).mp q))]
    exact LR_nm h0
  · dsimp only at s1 s2 s3 ⊢
    subst s1; subst s2; subst s3
    rw [if_pos ((l_mem (by omega)).mpr hR)]
    exact ⟨Or.inr (Or.inr (Or.inr ⟨R, hR, rfl, rfl, rfl⟩)), h0⟩
set_option maxHeartbeats 4000000 in
set_option maxRecDepth 100000 in
theorem LD {at' vs hg ri : Int32} {ra : Int64} {re : Int32} {mem : Nat → Int32} {mode kind a : Int32} {n : Nat} (hn : n < 2 ^ 32) (hm : mode = 0 ∨ mode = 1 ∨ mode = 2 ∨ mode = 3) (hk : kind = 0 ∨ kind = 1 ∨ kind = 2 ∨ kind = 3) (ea : a.toInt64 &&& 4294967295 = lN n) : LR kind (fx_lead at' vs hg ri ra re mem mode kind (lN n)) (fm_go at' vs hg ri mem mode kind a) := by
  unfold fx_lead fm_go
  rw [ea]
  by_cases hv : fx_isVirtual mode = 0
  · rw [if_pos (show (if mode < 2 then 0 else 1 : Int32) = 0 from hv)]
    have hF := F1h (hg := hg) (ri := ri) (ra := ra) (wa := 0) (re := re) (oe0 := 0) (mem := mem) (root := at') (Or.inl rfl) hn hm hk hv
    unfold usrM sumM lxM at hF
    simp only [if_pos hv] at hF ⊢
    by_cases hr : at' < 0
    · have hF := hF hr
      rw [if_neg (Int32.not_le.mpr hr)]
      generalize fx_walkFirst hg ri ra re mem mode kind (lN n) at' = x1 at hF ⊢
      generalize fm_first0 0 0 0 mem at' (lN n) kind (if mode - mode / 2 * 2 = 0 then 1 else 0) (fm_has ri 0) (fm_has ri 1) = o1 at hF ⊢
      obtain ⟨v1, ra1, re1⟩ := x1
      obtain ⟨w1, c1, wa1, oe1⟩ := o1
      obtain ⟨hF, hoe⟩ := hF
      have hoe : oe1 = 0 ∨ oe1 = 1 := hoe
      rcases hF with ⟨s1, s2, s3, s4, s5, s6⟩ | ⟨s1, s2⟩ | ⟨s1, s2⟩ | ⟨R, hR, s1, s2, s3⟩
      · dsimp only at s1 s2 s3 s4 s5 s6 ⊢
        subst s1; subst s2
        rw [th_neg (sf_neg kind), if_neg (rs_ne kind)]
        simp only [if_pos (neg_lt (sf_neg kind))]
        exact ⟨Or.inl ⟨rfl, rfl, s3, s4, s5, s6⟩, hoe⟩
      · dsimp only at s1 s2 ⊢
        subst s1; subst s2
        rw [th_neg (nm_neg kind), if_neg (raise_ne kind)]
        simp only [if_pos (neg_lt (nm_neg kind))]
        exact LR_nm hoe
      · dsimp only at s1 s2 ⊢
        subst s1; subst s2
        rw [th_neg (ff_neg kind), if_neg (rf_ne kind)]
        simp only [if_pos (neg_lt (ff_neg kind))]
        exact LR_ff hoe
      · dsimp only at s1 s2 s3 ⊢
        subst s1; subst s2; subst s3
        rw [th_h (by omega) hv]
        simp only [if_true]
        exact LR_end (R := R) hoe (by omega)
    · rw [if_pos (Int32.not_lt.mp hr)]
      unfold fm_first0
      rw [if_neg hr, th_h (by omega) hv]
      simp only [if_true]
      exact LR_end (R := n) (Or.inl rfl) (by omega)
  · rw [if_neg (show ¬ (if mode < 2 then 0 else 1 : Int32) = 0 from hv)]
    have hF := F1v (hg := hg) (ri := ri) (ra := ra) (wa := 0) (re := re) (oe0 := 0) (mem := mem) (root := vs) (Or.inl rfl) hn hm hk hv
    unfold usrM sumM lxM at hF
    simp only [if_neg hv] at hF ⊢
    by_cases hr : vs < 0
    · have hF := hF hr
      rw [if_neg (Int32.not_le.mpr hr)]
      generalize fx_walkFirst hg ri ra re mem mode kind (lN n) vs = x1 at hF ⊢
      generalize fm_first1 hg ri 0 0 0 mem vs (lN n) kind (if mode - mode / 2 * 2 = 0 then 1 else 0) (fm_has ri 2) (if fm_has ri 3 = 0 then if fm_has ri 1 = 0 then 0 else 1 else 1) = o1 at hF ⊢
      obtain ⟨v1, ra1, re1⟩ := x1
      obtain ⟨w1, c1, wa1, oe1⟩ := o1
      obtain ⟨hF, hoe⟩ := hF
      have hoe : oe1 = 0 ∨ oe1 = 1 := hoe
      rcases hF with ⟨s1, s2, s3, s4, s5, s6⟩ | ⟨s1, s2⟩ | ⟨s1, s2⟩ | ⟨R, hR, s1, s2, s3⟩
      · dsimp only at s1 s2 s3 s4 s5 s6 ⊢
        subst s1; subst s2
        rw [th_neg (sf_neg kind), if_neg (rs_ne kind)]
        simp only [if_pos (neg_lt (sf_neg kind))]
        exact ⟨Or.inl ⟨rfl, rfl, s3, s4, s5, s6⟩, hoe⟩
      · dsimp only at s1 s2 ⊢
        subst s1; subst s2
        rw [th_neg (nm_neg kind), if_neg (raise_ne kind)]
        simp only [if_pos (neg_lt (nm_neg kind))]
        exact LR_nm hoe
      · dsimp only at s1 s2 ⊢
        subst s1; subst s2
        rw [th_neg (ff_neg kind), if_neg (rf_ne kind)]
        simp only [if_pos (neg_lt (ff_neg kind))]
        exact LR_ff hoe
      · dsimp only at s1 s2 s3 ⊢
        subst s1; subst s2; subst s3
        simp only [if_true]
        exact LR_ss (S2v (n := R) hoe hR hk (Or.inl rfl) (by rw [if_pos rfl]) hv)
    · rw [if_pos (Int32.not_lt.mp hr)]
      unfold fm_first1
      rw [if_neg hr]
      simp only [if_true]
      exact LR_ss (S2v (n := n) (Or.inl rfl) (by omega) hk (Or.inl rfl) (by rw [if_pos rfl]) hv)
