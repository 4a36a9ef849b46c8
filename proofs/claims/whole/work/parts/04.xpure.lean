/-! StageWalker: the world of an object (its cell, its array), and the methods that look at no object -/
abbrev wx (h0 : Nat) (q_words : Nat) (k_words : ClassId) (v_atp : Int32) (v_vsAtp : Int32) (v_hgatp : Int32) (v_rights : Int32) (v_latestPlace : Int32) (v_latestSecond : Int32) (v_latestEntry : Int32) (v_refusedAddress : Int64) (v_refusedEntry : Int32) (m_words : Nat → Int32) : va_W := [(h0, .inr (0, [.ref q_words, .int v_atp, .int v_vsAtp, .int v_hgatp, .int v_rights, .int v_latestPlace, .int v_latestSecond, .int v_latestEntry, .long v_refusedAddress, .int v_refusedEntry])), (q_words, .inl (k_words, 65536, .inl m_words))]
def fx_isWordOfMemory (a0 : Int32) : Int32 := if a0 < 0 then 0 else if 262144 ≤ a0 then 0 else if (a0 - a0 / 4 * 4) = 0 then 1 else 0
set_option maxHeartbeats 4000000 in
set_option maxRecDepth 100000 in
theorem ctx_isWordOfMemory (l : Launch) (sz : Nat) (a0 : Int32) : MPi l yX0_isWordOfMemory wsX0_isWordOfMemory ({ frames := 0, cells := 0, slots := 0, locals := 0 }) [.int a0] sz (fx_isWordOfMemory a0) := by
  refine Met.ofW (cc := cX0_isWordOfMemory) (maxL := 1) (ret := (some .boolean)) (by decide) rfl ?_
  intro p e s m args below meth c s₁ B hml hv
  obtain ⟨rfl, hsz⟩ := hv
  have hx := B.exec
  have hb := B.bytes
  have hr := B.returns
  have hts := atoms_spec (ws := wsX0_isWordOfMemory) B.pre
  have hown : s.vm.findClass RX0 = some m.cls := findClass_of_methodNamed B.named
  have hlocks := B.notSynchronized
  subst hsz
  generalize hAe : va_A [] s.heap.size = A
  have hA : ∀ q : Nat, s.heap.size ≤ q → A q := fun q h => by rw [← hAe]; exact Or.inr h
  have hS : va_S A s.heap s.heap [] := va_S.rf
  have hP : va_P (fun _ => m.cls, fun _ _ => 0) vwCl [] s.heap := fun k q h => by simp at h
  have hl := lv_entry ([.int a0]) (n := 1) (Nat.le_of_ble_eq_true rfl)
  rw [lg_entry_eq]
  generalize (lg_sl ([.int a0]) ++ List.replicate (1 - (lg_sl ([.int a0])).length) Slot.unset).toArray = ls at hl ⊢
  have hl : lv_has ls 1 [(0, .int a0)] := hl
  refine lv_iload_n hx hb dX0_isWordOfMemory_0 rfl (lv_at hl 0 rfl) ?_
  refine lv_if_lt (tgt := 20) hx hb dX0_isWordOfMemory_1 (by decide) (fun c_1 => ?_) (fun c_1 => ?_)
  · skip
    refine lv_iconst (v := 0) hx hb dX0_isWordOfMemory_20 (by decide) ?_
    exact W.zret (v := 0) (ty := .boolean) hx hb hr nb_0 (fun t ht hW => ⟨⟨_, (), rfl, by first | (rw [fx_isWordOfMemory, if_pos c_1]; done) | (simp only [fx_isWordOfMemory, if_pos c_1]; done) | (rw [fx_isWordOfMemory, if_pos c_1] <;> rfl), trivial⟩, hS.F ht⟩) hS.2.2 dX0_isWordOfMemory_21
  · skip
    refine lv_iload_n hx hb dX0_isWordOfMemory_4 rfl (lv_at hl 0 rfl) ?_
    refine lv_ldc hx hb hown (hts (.constant RX0 71 262144) (by decide +kernel)) dX0_isWordOfMemory_5 ?_
    refine lv_icmp_ge (tgt := 20) hx hb dX0_isWordOfMemory_7 (by decide) (fun c_7 => ?_) (fun c_7 => ?_)
    · skip
      refine lv_iconst (v := 0) hx hb dX0_isWordOfMemory_20 (by decide) ?_
      exact W.zret (v := 0) (ty := .boolean) hx hb hr nb_0 (fun t ht hW => ⟨⟨_, (), rfl, by first | (rw [fx_isWordOfMemory, if_neg c_1, if_pos c_7]; done) | (simp only [fx_isWordOfMemory, if_neg c_1, if_pos c_7]; done) | (rw [fx_isWordOfMemory, if_neg c_1, if_pos c_7] <;> rfl), trivial⟩, hS.F ht⟩) hS.2.2 dX0_isWordOfMemory_21
    · skip
      refine lv_iload_n hx hb dX0_isWordOfMemory_10 rfl (lv_at hl 0 rfl) ?_
      refine lv_iconst (v := 4) hx hb dX0_isWordOfMemory_11 (by decide) ?_
      refine lv_irem hx hb dX0_isWordOfMemory_12 (by decide) ?_
      refine lv_if_ne (tgt := 20) hx hb dX0_isWordOfMemory_13 (by decide) (fun c_13 => ?_) (fun c_13 => ?_)
      · skip
        refine lv_iconst (v := 0) hx hb dX0_isWordOfMemory_20 (by decide) ?_
        exact W.zret (v := 0) (ty := .boolean) hx hb hr nb_0 (fun t ht hW => ⟨⟨_, (), rfl, by first | (rw [fx_isWordOfMemory, if_neg c_1, if_neg c_7, if_neg c_13]; done) | (simp only [fx_isWordOfMemory, if_neg c_1, if_neg c_7, if_neg c_13]; done) | (rw [fx_isWordOfMemory, if_neg c_1, if_neg c_7, if_neg c_13] <;> rfl), trivial⟩, hS.F ht⟩) hS.2.2 dX0_isWordOfMemory_21
      · skip
        refine lv_iconst (v := 1) hx hb dX0_isWordOfMemory_16 (by decide) ?_
        refine lv_goto (tgt := 21) hx hb dX0_isWordOfMemory_17 (by decide) ?_
        exact W.zret (v := 1) (ty := .boolean) hx hb hr nb_1 (fun t ht hW => ⟨⟨_, (), rfl, by first | (rw [fx_isWordOfMemory, if_neg c_1, if_neg c_7, if_pos c_13]; done) | (simp only [fx_isWordOfMemory, if_neg c_1, if_neg c_7, if_pos c_13]; done) | (rw [fx_isWordOfMemory, if_neg c_1, if_neg c_7, if_pos c_13] <;> rfl), trivial⟩, hS.F ht⟩) hS.2.2 dX0_isWordOfMemory_21
def fx_isVirtual (a0 : Int32) : Int32 := if a0 < 2 then 0 else 1
set_option maxHeartbeats 4000000 in
set_option maxRecDepth 100000 in
theorem ctx_isVirtual (l : Launch) (sz : Nat) (a0 : Int32) : MPi l yX0_isVirtual wsX0_isVirtual ({ frames := 0, cells := 0, slots := 0, locals := 0 }) [.int a0] sz (fx_isVirtual a0) := by
  refine Met.ofW (cc := cX0_isVirtual) (maxL := 1) (ret := (some .boolean)) (by decide) rfl ?_
  intro p e s m args below meth c s₁ B hml hv
  obtain ⟨rfl, hsz⟩ := hv
  have hx := B.exec
  have hb := B.bytes
  have hr := B.returns
  have hts := atoms_spec (ws := wsX0_isVirtual) B.pre
  have hown : s.vm.findClass RX0 = some m.cls := findClass_of_methodNamed B.named
  have hlocks := B.notSynchronized
  subst hsz
  generalize hAe : va_A [] s.heap.size = A
  have hA : ∀ q : Nat, s.heap.size ≤ q → A q := fun q h => by rw [← hAe]; exact Or.inr h
  have hS : va_S A s.heap s.heap [] := va_S.rf
  have hP : va_P (fun _ => m.cls, fun _ _ => 0) vwCl [] s.heap := fun k q h => by simp at h
  have hl := lv_entry ([.int a0]) (n := 1) (Nat.le_of_ble_eq_true rfl)
  rw [lg_entry_eq]
  generalize (lg_sl ([.int a0]) ++ List.replicate (1 - (lg_sl ([.int a0])).length) Slot.unset).toArray = ls at hl ⊢
  have hl : lv_has ls 1 [(0, .int a0)] := hl
  refine lv_iload_n hx hb dX0_isVirtual_0 rfl (lv_at hl 0 rfl) ?_
  refine lv_iconst (v := 2) hx hb dX0_isVirtual_1 (by decide) ?_
  refine lv_icmp_lt (tgt := 9) hx hb dX0_isVirtual_2 (by decide) (fun c_2 => ?_) (fun c_2 => ?_)
  · skip
    refine lv_iconst (v := 0) hx hb dX0_isVirtual_9 (by decide) ?_
    exact W.zret (v := 0) (ty := .boolean) hx hb hr nb_0 (fun t ht hW => ⟨⟨_, (), rfl, by first | (rw [fx_isVirtual, if_pos c_2]; done) | (simp only [fx_isVirtual, if_pos c_2]; done) | (rw [fx_isVirtual, if_pos c_2] <;> rfl), trivial⟩, hS.F ht⟩) hS.2.2 dX0_isVirtual_10
  · skip
    refine lv_iconst (v := 1) hx hb dX0_isVirtual_5 (by decide) ?_
    refine lv_goto (tgt := 10) hx hb dX0_isVirtual_6 (by decide) ?_
    exact W.zret (v := 1) (ty := .boolean) hx hb hr nb_1 (fun t ht hW => ⟨⟨_, (), rfl, by first | (rw [fx_isVirtual, if_neg c_2]; done) | (simp only [fx_isVirtual, if_neg c_2]; done) | (rw [fx_isVirtual, if_neg c_2] <;> rfl), trivial⟩, hS.F ht⟩) hS.2.2 dX0_isVirtual_10
def fx_isKnown (a0 : Int32) (a1 : Int32) : Int32 := if a0 < 0 then 0 else if 3 < a0 then 0 else if a1 < 0 then 0 else if ((if ((fx_isVirtual a0)) = 0 then 2 else 3 : Int32)) < a1 then 0 else 1
set_option maxHeartbeats 4000000 in
set_option maxRecDepth 100000 in
theorem ctx_isKnown (l : Launch) (sz : Nat) (a0 : Int32) (a1 : Int32) : MPi l yX0_isKnown wsX0_isKnown ({ frames := 1, cells := 0, slots := 0, locals := 20 }) [.int a0, .int a1] sz (fx_isKnown a0 a1) := by
  refine Met.ofW (cc := cX0_isKnown) (maxL := 3) (ret := (some .boolean)) (by decide) rfl ?_
  intro p e s m args below meth c s₁ B hml hv
  obtain ⟨rfl, hsz⟩ := hv
  have hx := B.exec
  have hb := B.bytes
  have hr := B.returns
  have hts := atoms_spec (ws := wsX0_isKnown) B.pre
  have hown : s.vm.findClass RX0 = some m.cls := findClass_of_methodNamed B.named
  have hlocks := B.notSynchronized
  subst hsz
  generalize hAe : va_A [] s.heap.size = A
  have hA : ∀ q : Nat, s.heap.size ≤ q → A q := fun q h => by rw [← hAe]; exact Or.inr h
  have hS : va_S A s.heap s.heap [] := va_S.rf
  have hP : va_P (fun _ => m.cls, fun _ _ => 0) vwCl [] s.heap := fun k q h => by simp at h
  have hl := lv_entry ([.int a0, .int a1]) (n := 3) (Nat.le_of_ble_eq_true rfl)
  rw [lg_entry_eq]
  generalize (lg_sl ([.int a0, .int a1]) ++ List.replicate (3 - (lg_sl ([.int a0, .int a1])).length) Slot.unset).toArray = ls at hl ⊢
  have hl : lv_has ls 3 [(0, .int a0), (1, .int a1)] := hl
  refine lv_iload_n hx hb dX0_isKnown_0 rfl (lv_at hl 0 rfl) ?_
  refine cs_i (va_runS (As := [.int a0]) (rest := []) ⟨hx, hb, hml, hown, hts⟩ (ctx_isVirtual l s.heap.size a0) (va_cwS 1 hts gX0_isKnown_X0_isVirtual rfl rfl rfl (by decide +kernel) ⟨Nat.le_of_ble_eq_true rfl, Nat.le_of_ble_eq_true rfl⟩) ⟨fun a U g mk q => q, fun U hU hW => ⟨rfl, congrArg Array.size hU⟩⟩ rfl rfl hl.1 rfl (lv_room (Nat.le_of_ble_eq_true rfl)) dX0_isKnown_1 ⟨Nat.zero_le _, Nat.zero_le _⟩) hA hP hS (fun H locs hP hS => ?_)
  refine lj_i (j := 12) (z0 := if ((fx_isVirtual a0)) = 0 then 2 else 3) (rest := []) hP hS (fun H locs hP hS z_1 ez_1 => ?_) (fun J12_4 => ?_)
  · skip
    refine lv_istore_n (lv' := [(2, .int z_1), (0, .int a0), (1, .int a1)]) hx hb dX0_isKnown_12 rfl hl (by decide) rfl (fun ls hl => ?_)
    refine lv_iload_n hx hb dX0_isKnown_13 rfl (lv_at hl 1 rfl) ?_
    refine lv_if_lt (tgt := 35) hx hb dX0_isKnown_14 (by decide) (fun c_14 => ?_) (fun c_14 => ?_)
    · skip
      refine lv_iconst (v := 0) hx hb dX0_isKnown_35 (by decide) ?_
      exact W.zret (v := 0) (ty := .boolean) hx hb hr nb_0 (fun t ht hW => ⟨⟨_, (), rfl, by subst ez_1; first | (rw [fx_isKnown, if_pos c_14]; done) | (simp only [fx_isKnown, if_pos c_14]; done) | (rw [fx_isKnown, if_pos c_14] <;> rfl), trivial⟩, hS.F ht⟩) hS.2.2 dX0_isKnown_36
    · skip
      refine lv_iload_n hx hb dX0_isKnown_17 rfl (lv_at hl 1 rfl) ?_
      refine lv_iconst (v := 3) hx hb dX0_isKnown_18 (by decide) ?_
      refine lv_icmp_gt (tgt := 35) hx hb dX0_isKnown_19 (by decide) (fun c_19 => ?_) (fun c_19 => ?_)
      · skip
        refine lv_iconst (v := 0) hx hb dX0_isKnown_35 (by decide) ?_
        exact W.zret (v := 0) (ty := .boolean) hx hb hr nb_0 (fun t ht hW => ⟨⟨_, (), rfl, by subst ez_1; first | (rw [fx_isKnown, if_neg c_14, if_pos c_19]; done) | (simp only [fx_isKnown, if_neg c_14, if_pos c_19]; done) | (rw [fx_isKnown, if_neg c_14, if_pos c_19] <;> rfl), trivial⟩, hS.F ht⟩) hS.2.2 dX0_isKnown_36
      · skip
        refine lv_iload_n hx hb dX0_isKnown_22 rfl (lv_at hl 2 rfl) ?_
        refine lv_if_lt (tgt := 35) hx hb dX0_isKnown_23 (by decide) (fun c_23 => ?_) (fun c_23 => ?_)
        · skip
          refine lv_iconst (v := 0) hx hb dX0_isKnown_35 (by decide) ?_
          exact W.zret (v := 0) (ty := .boolean) hx hb hr nb_0 (fun t ht hW => ⟨⟨_, (), rfl, by subst ez_1; first | (rw [fx_isKnown, if_neg c_14, if_neg c_19, if_pos c_23]; done) | (simp only [fx_isKnown, if_neg c_14, if_neg c_19, if_pos c_23]; done) | (rw [fx_isKnown, if_neg c_14, if_neg c_19, if_pos c_23] <;> rfl), trivial⟩, hS.F ht⟩) hS.2.2 dX0_isKnown_36
        · skip
          refine lv_iload_n hx hb dX0_isKnown_26 rfl (lv_at hl 2 rfl) ?_
          refine lv_iload_n hx hb dX0_isKnown_27 rfl (lv_at hl 0 rfl) ?_
          refine lv_icmp_gt (tgt := 35) hx hb dX0_isKnown_28 (by decide) (fun c_28 => ?_) (fun c_28 => ?_)
          · skip
            refine lv_iconst (v := 0) hx hb dX0_isKnown_35 (by decide) ?_
            exact W.zret (v := 0) (ty := .boolean) hx hb hr nb_0 (fun t ht hW => ⟨⟨_, (), rfl, by subst ez_1; first | (rw [fx_isKnown, if_neg c_14, if_neg c_19, if_neg c_23, if_pos c_28]; done) | (simp only [fx_isKnown, if_neg c_14, if_neg c_19, if_neg c_23, if_pos c_28]; done) | (rw [fx_isKnown, if_neg c_14, if_neg c_19, if_neg c_23, if_pos c_28] <;> rfl), trivial⟩, hS.F ht⟩) hS.2.2 dX0_isKnown_36
          · skip
            refine lv_iconst (v := 1) hx hb dX0_isKnown_31 (by decide) ?_
            refine lv_goto (tgt := 36) hx hb dX0_isKnown_32 (by decide) ?_
            exact W.zret (v := 1) (ty := .boolean) hx hb hr nb_1 (fun t ht hW => ⟨⟨_, (), rfl, by subst ez_1; first | (rw [fx_isKnown, if_neg c_14, if_neg c_19, if_neg c_23, if_neg c_28]; done) | (simp only [fx_isKnown, if_neg c_14, if_neg c_19, if_neg c_23, if_neg c_28]; done) | (rw [fx_isKnown, if_neg c_14, if_neg c_19, if_neg c_23, if_neg c_28] <;> rfl), trivial⟩, hS.F ht⟩) hS.2.2 dX0_isKnown_36
  · skip
    refine lv_if_eq (tgt := 11) hx hb dX0_isKnown_4 (by decide) (fun c_4 => ?_) (fun c_4 => ?_)
    · skip
      refine lv_iconst (v := 2) hx hb dX0_isKnown_11 (by decide) ?_
      exact W.eq (by rw [if_pos c_4] <;> rfl) (J12_4 _ _ hP hS)
    · skip
      refine lv_iconst (v := 3) hx hb dX0_isKnown_7 (by decide) ?_
      refine lv_goto (tgt := 12) hx hb dX0_isKnown_8 (by decide) ?_
      exact W.eq (by rw [if_neg c_4] <;> rfl) (J12_4 _ _ hP hS)
def fx_upperEntry (a0 : Int32) (a1 : Int64) : Int64 := (a0.toInt64 * 4096) + (4 * (jlushr a1 22))
set_option maxHeartbeats 4000000 in
set_option maxRecDepth 100000 in
theorem ctx_upperEntry (l : Launch) (sz : Nat) (a0 : Int32) (a1 : Int64) : MPl l yX0_upperEntry wsX0_upperEntry ({ frames := 0, cells := 0, slots := 0, locals := 0 }) [.int a0, .long a1] sz (fx_upperEntry a0 a1) := by
  refine Met.ofW (cc := cX0_upperEntry) (maxL := 3) (ret := (some .long)) (by decide) rfl ?_
  intro p e s m args below meth c s₁ B hml hv
  obtain ⟨rfl, hsz⟩ := hv
  have hx := B.exec
  have hb := B.bytes
  have hr := B.returns
  have hts := atoms_spec (ws := wsX0_upperEntry) B.pre
  have hown : s.vm.findClass RX0 = some m.cls := findClass_of_methodNamed B.named
  have hlocks := B.notSynchronized
  subst hsz
  generalize hAe : va_A [] s.heap.size = A
  have hA : ∀ q : Nat, s.heap.size ≤ q → A q := fun q h => by rw [← hAe]; exact Or.inr h
  have hS : va_S A s.heap s.heap [] := va_S.rf
  have hP : va_P (fun _ => m.cls, fun _ _ => 0) vwCl [] s.heap := fun k q h => by simp at h
  have hl := lv_entry ([.int a0, .long a1]) (n := 3) (Nat.le_of_ble_eq_true rfl)
  rw [lg_entry_eq]
  generalize (lg_sl ([.int a0, .long a1]) ++ List.replicate (3 - (lg_sl ([.int a0, .long a1])).length) Slot.unset).toArray = ls at hl ⊢
  have hl : lv_has ls 3 [(0, .int a0), (1, .long a1)] := hl
  refine lv_iload_n hx hb dX0_upperEntry_0 rfl (lv_at hl 0 rfl) ?_
  refine lv_i2l (v := a0.toInt64) hx hb dX0_upperEntry_1 rfl ?_
  refine lv_ldc2 hx hb hown (hts (.constantLong RX0 69 4096) (by decide +kernel)) dX0_upperEntry_2 ?_
  refine lv_lmul hx hb dX0_upperEntry_5 ?_
  refine lv_ldc2 hx hb hown (hts (.constantLong RX0 128 4) (by decide +kernel)) dX0_upperEntry_6 ?_
  refine lv_lload_n hx hb dX0_upperEntry_9 rfl (lv_at hl 1 rfl) ?_
  refine lv_bipush (v := 22) hx hb dX0_upperEntry_10 (by decide) ?_
  refine lv_lushr (v := jlushr a1 22) hx hb dX0_upperEntry_12 rfl ?_
  refine lv_lmul hx hb dX0_upperEntry_13 ?_
  refine lv_ladd hx hb dX0_upperEntry_14 ?_
  exact W.lret (v := (a0.toInt64 * 4096) + (4 * (jlushr a1 22))) hx hb hr (fun t ht hW => ⟨⟨_, (), rfl, by rfl, trivial⟩, hS.F ht⟩) hS.2.2 dX0_upperEntry_15
def fx_lowerEntry (a0 : Int64) (a1 : Int64) : Int64 := ((jlushr a0 10) * 4096) + (4 * ((jlushr a1 12) &&& 1023))
set_option maxHeartbeats 4000000 in
set_option maxRecDepth 100000 in
theorem ctx_lowerEntry (l : Launch) (sz : Nat) (a0 : Int64) (a1 : Int64) : MPl l yX0_lowerEntry wsX0_lowerEntry ({ frames := 0, cells := 0, slots := 0, locals := 0 }) [.long a0, .long a1] sz (fx_lowerEntry a0 a1) := by
  refine Met.ofW (cc := cX0_lowerEntry) (maxL := 4) (ret := (some .long)) (by decide) rfl ?_
  intro p e s m args below meth c s₁ B hml hv
  obtain ⟨rfl, hsz⟩ := hv
  have hx := B.exec
  have hb := B.bytes
  have hr := B.returns
  have hts := atoms_spec (ws := wsX0_lowerEntry) B.pre
  have hown : s.vm.findClass RX0 = some m.cls := findClass_of_methodNamed B.named
  have hlocks := B.notSynchronized
  subst hsz
  generalize hAe : va_A [] s.heap.size = A
  have hA : ∀ q : Nat, s.heap.size ≤ q → A q := fun q h => by rw [← hAe]; exact Or.inr h
  have hS : va_S A s.heap s.heap [] := va_S.rf
  have hP : va_P (fun _ => m.cls, fun _ _ => 0) vwCl [] s.heap := fun k q h => by simp at h
  have hl := lv_entry ([.long a0, .long a1]) (n := 4) (Nat.le_of_ble_eq_true rfl)
  rw [lg_entry_eq]
  generalize (lg_sl ([.long a0, .long a1]) ++ List.replicate (4 - (lg_sl ([.long a0, .long a1])).length) Slot.unset).toArray = ls at hl ⊢
  have hl : lv_has ls 4 [(0, .long a0), (2, .long a1)] := hl
  refine lv_lload_n hx hb dX0_lowerEntry_0 rfl (lv_at hl 0 rfl) ?_
  refine lv_bipush (v := 10) hx hb dX0_lowerEntry_1 (by decide) ?_
  refine lv_lushr (v := jlushr a0 10) hx hb dX0_lowerEntry_3 rfl ?_
  refine lv_ldc2 hx hb hown (hts (.constantLong RX0 69 4096) (by decide +kernel)) dX0_lowerEntry_4 ?_
  refine lv_lmul hx hb dX0_lowerEntry_7 ?_
  refine lv_ldc2 hx hb hown (hts (.constantLong RX0 128 4) (by decide +kernel)) dX0_lowerEntry_8 ?_
  refine lv_lload_n hx hb dX0_lowerEntry_11 rfl (lv_at hl 1 rfl) ?_
  refine lv_bipush (v := 12) hx hb dX0_lowerEntry_12 (by decide) ?_
  refine lv_lushr (v := jlushr a1 12) hx hb dX0_lowerEntry_14 rfl ?_
  refine lv_ldc2 hx hb hown (hts (.constantLong RX0 130 1023) (by decide +kernel)) dX0_lowerEntry_15 ?_
  refine lv_land hx hb dX0_lowerEntry_18 ?_
  refine lv_lmul hx hb dX0_lowerEntry_19 ?_
  refine lv_ladd hx hb dX0_lowerEntry_20 ?_
  exact W.lret (v := ((jlushr a0 10) * 4096) + (4 * ((jlushr a1 12) &&& 1023))) hx hb hr (fun t ht hW => ⟨⟨_, (), rfl, by rfl, trivial⟩, hS.F ht⟩) hS.2.2 dX0_lowerEntry_21
def fx_isTable (a0 : Int64) : Int32 := if (a0 &&& 223) = 1 then 1 else 0
set_option maxHeartbeats 4000000 in
set_option maxRecDepth 100000 in
theorem ctx_isTable (l : Launch) (sz : Nat) (a0 : Int64) : MPi l yX0_isTable wsX0_isTable ({ frames := 0, cells := 0, slots := 0, locals := 0 }) [.long a0] sz (fx_isTable a0) := by
  refine Met.ofW (cc := cX0_isTable) (maxL := 2) (ret := (some .boolean)) (by decide) rfl ?_
  intro p e s m args below meth c s₁ B hml hv
  obtain ⟨rfl, hsz⟩ := hv
  have hx := B.exec
  have hb := B.bytes
  have hr := B.returns
  have hts := atoms_spec (ws := wsX0_isTable) B.pre
  have hown : s.vm.findClass RX0 = some m.cls := findClass_of_methodNamed B.named
  have hlocks := B.notSynchronized
  subst hsz
  generalize hAe : va_A [] s.heap.size = A
  have hA : ∀ q : Nat, s.heap.size ≤ q → A q := fun q h => by rw [← hAe]; exact Or.inr h
  have hS : va_S A s.heap s.heap [] := va_S.rf
  have hP : va_P (fun _ => m.cls, fun _ _ => 0) vwCl [] s.heap := fun k q h => by simp at h
  have hl := lv_entry ([.long a0]) (n := 2) (Nat.le_of_ble_eq_true rfl)
  rw [lg_entry_eq]
  generalize (lg_sl ([.long a0]) ++ List.replicate (2 - (lg_sl ([.long a0])).length) Slot.unset).toArray = ls at hl ⊢
  have hl : lv_has ls 2 [(0, .long a0)] := hl
  refine lv_lload_n hx hb dX0_isTable_0 rfl (lv_at hl 0 rfl) ?_
  refine lv_ldc2 hx hb hown (hts (.constantLong RX0 132 223) (by decide +kernel)) dX0_isTable_1 ?_
  refine lv_land hx hb dX0_isTable_4 ?_
  refine lv_lconst (v := 1) hx hb dX0_isTable_5 (by decide) ?_
  refine lq_ne (tgt := 14) hx hb dX0_isTable_6 dX0_isTable_7 (by decide) (fun c_7 => ?_) (fun c_7 => ?_)
  · skip
    refine lv_iconst (v := 0) hx hb dX0_isTable_14 (by decide) ?_
    exact W.zret (v := 0) (ty := .boolean) hx hb hr nb_0 (fun t ht hW => ⟨⟨_, (), rfl, by first | (rw [fx_isTable, if_neg c_7]; done) | (simp only [fx_isTable, if_neg c_7]; done) | (rw [fx_isTable, if_neg c_7] <;> rfl), trivial⟩, hS.F ht⟩) hS.2.2 dX0_isTable_15
  · skip
    refine lv_iconst (v := 1) hx hb dX0_isTable_10 (by decide) ?_
    refine lv_goto (tgt := 15) hx hb dX0_isTable_11 (by decide) ?_
    exact W.zret (v := 1) (ty := .boolean) hx hb hr nb_1 (fun t ht hW => ⟨⟨_, (), rfl, by first | (rw [fx_isTable, if_pos c_7]; done) | (simp only [fx_isTable, if_pos c_7]; done) | (rw [fx_isTable, if_pos c_7] <;> rfl), trivial⟩, hS.F ht⟩) hS.2.2 dX0_isTable_15
def fx_isGoodLeaf (a0 : Int64) (a1 : Int32) : Int32 := if ((if (a0 &&& 1) = 0 then 0 else if (a0 &&& 14) = 0 then 0 else 1 : Int32)) = 0 then 0 else if ((if (a0 &&& 6) = 4 then 1 else 0 : Int32)) = 0 then if ((if a1 = 0 then 0 else if (a0 &&& 1047552) = 0 then 0 else 1 : Int32)) = 0 then 1 else 0 else 0
set_option maxHeartbeats 4000000 in
set_option maxRecDepth 100000 in
theorem ctx_isGoodLeaf (l : Launch) (sz : Nat) (a0 : Int64) (a1 : Int32) : MPi l yX0_isGoodLeaf wsX0_isGoodLeaf ({ frames := 0, cells := 0, slots := 0, locals := 0 }) [.long a0, .int a1] sz (fx_isGoodLeaf a0 a1) := by
  refine Met.ofW (cc := cX0_isGoodLeaf) (maxL := 6) (ret := (some .boolean)) (by decide) rfl ?_
  intro p e s m args below meth c s₁ B hml hv
  obtain ⟨rfl, hsz⟩ := hv
  have hx := B.exec
  have hb := B.bytes
  have hr := B.returns
  have hts := atoms_spec (ws := wsX0_isGoodLeaf) B.pre
  have hown : s.vm.findClass RX0 = some m.cls := findClass_of_methodNamed B.named
  have hlocks := B.notSynchronized
  subst hsz
  generalize hAe : va_A [] s.heap.size = A
  have hA : ∀ q : Nat, s.heap.size ≤ q → A q := fun q h => by rw [← hAe]; exact Or.inr h
  have hS : va_S A s.heap s.heap [] := va_S.rf
  have hP : va_P (fun _ => m.cls, fun _ _ => 0) vwCl [] s.heap := fun k q h => by simp at h
  have hl := lv_entry ([.long a0, .int a1]) (n := 6) (Nat.le_of_ble_eq_true rfl)
  rw [lg_entry_eq]
  generalize (lg_sl ([.long a0, .int a1]) ++ List.replicate (6 - (lg_sl ([.long a0, .int a1])).length) Slot.unset).toArray = ls at hl ⊢
  have hl : lv_has ls 6 [(0, .long a0), (2, .int a1)] := hl
  refine lv_lload_n hx hb dX0_isGoodLeaf_0 rfl (lv_at hl 0 rfl) ?_
  refine lv_lconst (v := 1) hx hb dX0_isGoodLeaf_1 (by decide) ?_
  refine lv_land hx hb dX0_isGoodLeaf_2 ?_
  refine lv_lconst (v := 0) hx hb dX0_isGoodLeaf_3 (by decide) ?_
  refine lj_i (j := 23) (z0 := if (a0 &&& 1) = 0 then 0 else if (a0 &&& 14) = 0 then 0 else 1) (rest := []) hP hS (fun H locs hP hS z_1 ez_1 => ?_) (fun J23_5 => ?_)
  · skip
    have oz_1 : z_1 = 0 ∨ z_1 = 1 := by rw [ez_1]; exact ite01 (Or.inl rfl) (ite01 (Or.inl rfl) (Or.inr rfl))
    refine lv_istore_n (lv' := [(3, .int z_1), (0, .long a0), (2, .int a1)]) hx hb dX0_isGoodLeaf_23 rfl hl (by decide) rfl (fun ls hl => ?_)
    refine lv_lload_n hx hb dX0_isGoodLeaf_24 rfl (lv_at hl 1 rfl) ?_
    refine lv_ldc2 hx hb hown (hts (.constantLong RX0 136 6) (by decide +kernel)) dX0_isGoodLeaf_25 ?_
    refine lv_land hx hb dX0_isGoodLeaf_28 ?_
    refine lv_ldc2 hx hb hown (hts (.constantLong RX0 128 4) (by decide +kernel)) dX0_isGoodLeaf_29 ?_
    refine lj_i (j := 41) (z0 := if (a0 &&& 6) = 4 then 1 else 0) (rest := []) hP hS (fun H locs hP hS z_2 ez_2 => ?_) (fun J41_33 => ?_)
    · skip
      have oz_2 : z_2 = 0 ∨ z_2 = 1 := by rw [ez_2]; exact ite01 (Or.inr rfl) (Or.inl rfl)
      refine lv_istore (lv' := [(4, .int z_2), (3, .int z_1), (0, .long a0), (2, .int a1)]) hx hb dX0_isGoodLeaf_41 hl (by decide) rfl (fun ls hl => ?_)
      refine lv_iload_n hx hb dX0_isGoodLeaf_43 rfl (lv_at hl 3 rfl) ?_
      refine lj_i (j := 62) (z0 := if a1 = 0 then 0 else if (a0 &&& 1047552) = 0 then 0 else 1) (rest := []) hP hS (fun H locs hP hS z_3 ez_3 => ?_) (fun J62_44 => ?_)
      · skip
        have oz_3 : z_3 = 0 ∨ z_3 = 1 := by rw [ez_3]; exact ite01 (Or.inl rfl) (ite01 (Or.inl rfl) (Or.inr rfl))
        refine lv_istore (lv' := [(5, .int z_3), (4, .int z_2), (3, .int z_1), (0, .long a0), (2, .int a1)]) hx hb dX0_isGoodLeaf_62 hl (by decide) rfl (fun ls hl => ?_)
        refine lv_iload_n hx hb dX0_isGoodLeaf_64 rfl (lv_at hl 2 rfl) ?_
        refine lv_if_eq (tgt := 82) hx hb dX0_isGoodLeaf_65 (by decide) (fun c_65 => ?_) (fun c_65 => ?_)
        · skip
          refine lv_iconst (v := 0) hx hb dX0_isGoodLeaf_82 (by decide) ?_
          exact W.zret (v := 0) (ty := .boolean) hx hb hr nb_0 (fun t ht hW => ⟨⟨_, (), rfl, by subst ez_3; subst ez_2; subst ez_1; first | (rw [fx_isGoodLeaf, if_pos c_65]; done) | (simp only [fx_isGoodLeaf, if_pos c_65]; done) | (rw [fx_isGoodLeaf, if_pos c_65] <;> rfl), trivial⟩, hS.F ht⟩) hS.2.2 dX0_isGoodLeaf_83
        · skip
          refine lv_iload hx hb dX0_isGoodLeaf_68 (lv_at hl 1 rfl) ?_
          refine lv_if_ne (tgt := 82) hx hb dX0_isGoodLeaf_70 (by decide) (fun c_70 => ?_) (fun c_70 => ?_)
          · skip
            refine lv_iconst (v := 0) hx hb dX0_isGoodLeaf_82 (by decide) ?_
            exact W.zret (v := 0) (ty := .boolean) hx hb hr nb_0 (fun t ht hW => ⟨⟨_, (), rfl, by subst ez_3; subst ez_2; subst ez_1; first | (rw [fx_isGoodLeaf, if_neg c_65, if_neg c_70]; done) | (simp only [fx_isGoodLeaf, if_neg c_65, if_neg c_70]; done) | (rw [fx_isGoodLeaf, if_neg c_65, if_neg c_70] <;> rfl), trivial⟩, hS.F ht⟩) hS.2.2 dX0_isGoodLeaf_83
          · skip
            refine lv_iload hx hb dX0_isGoodLeaf_73 (lv_at hl 0 rfl) ?_
            refine lv_if_ne (tgt := 82) hx hb dX0_isGoodLeaf_75 (by decide) (fun c_75 => ?_) (fun c_75 => ?_)
            · skip
              refine lv_iconst (v := 0) hx hb dX0_isGoodLeaf_82 (by decide) ?_
              exact W.zret (v := 0) (ty := .boolean) hx hb hr nb_0 (fun t ht hW => ⟨⟨_, (), rfl, by subst ez_3; subst ez_2; subst ez_1; first | (rw [fx_isGoodLeaf, if_neg c_65, if_pos c_70, if_neg c_75]; done) | (simp only [fx_isGoodLeaf, if_neg c_65, if_pos c_70, if_neg c_75]; done) | (rw [fx_isGoodLeaf, if_neg c_65, if_pos c_70, if_neg c_75] <;> rfl), trivial⟩, hS.F ht⟩) hS.2.2 dX0_isGoodLeaf_83
            · skip
              refine lv_iconst (v := 1) hx hb dX0_isGoodLeaf_78 (by decide) ?_
              refine lv_goto (tgt := 83) hx hb dX0_isGoodLeaf_79 (by decide) ?_
              exact W.zret (v := 1) (ty := .boolean) hx hb hr nb_1 (fun t ht hW => ⟨⟨_, (), rfl, by subst ez_3; subst ez_2; subst ez_1; first | (rw [fx_isGoodLeaf, if_neg c_65, if_pos c_70, if_pos c_75]; done) | (simp only [fx_isGoodLeaf, if_neg c_65, if_pos c_70, if_pos c_75]; done) | (rw [fx_isGoodLeaf, if_neg c_65, if_pos c_70, if_pos c_75] <;> rfl), trivial⟩, hS.F ht⟩) hS.2.2 dX0_isGoodLeaf_83
      · skip
        refine lv_if_eq (tgt := 61) hx hb dX0_isGoodLeaf_44 (by decide) (fun c_44 => ?_) (fun c_44 => ?_)
        · skip
          refine lv_iconst (v := 0) hx hb dX0_isGoodLeaf_61 (by decide) ?_
          exact W.eq (by rw [if_pos c_44] <;> rfl) (J62_44 _ _ hP hS)
        · skip
          refine lv_lload_n hx hb dX0_isGoodLeaf_47 rfl (lv_at hl 2 rfl) ?_
          refine lv_ldc2 hx hb hown (hts (.constantLong RX0 138 1047552) (by decide +kernel)) dX0_isGoodLeaf_48 ?_
          refine lv_land hx hb dX0_isGoodLeaf_51 ?_
          refine lv_lconst (v := 0) hx hb dX0_isGoodLeaf_52 (by decide) ?_
          refine lq_eq (tgt := 61) hx hb dX0_isGoodLeaf_53 dX0_isGoodLeaf_54 (by decide) (fun c_54 => ?_) (fun c_54 => ?_)
          · skip
            refine lv_iconst (v := 0) hx hb dX0_isGoodLeaf_61 (by decide) ?_
            exact W.eq (by rw [if_neg c_44, if_pos c_54] <;> rfl) (J62_44 _ _ hP hS)
          · skip
            refine lv_iconst (v := 1) hx hb dX0_isGoodLeaf_57 (by decide) ?_
            refine lv_goto (tgt := 62) hx hb dX0_isGoodLeaf_58 (by decide) ?_
            exact W.eq (by rw [if_neg c_44, if_neg c_54] <;> rfl) (J62_44 _ _ hP hS)
    · skip
      refine lq_ne (tgt := 40) hx hb dX0_isGoodLeaf_32 dX0_isGoodLeaf_33 (by decide) (fun c_33 => ?_) (fun c_33 => ?_)
      · skip
        refine lv_iconst (v := 0) hx hb dX0_isGoodLeaf_40 (by decide) ?_
        exact W.eq (by rw [if_neg c_33] <;> rfl) (J41_33 _ _ hP hS)
      · skip
        refine lv_iconst (v := 1) hx hb dX0_isGoodLeaf_36 (by decide) ?_
        refine lv_goto (tgt := 41) hx hb dX0_isGoodLeaf_37 (by decide) ?_
        exact W.eq (by rw [if_pos c_33] <;> rfl) (J41_33 _ _ hP hS)
  · skip
    refine lq_eq (tgt := 22) hx hb dX0_isGoodLeaf_4 dX0_isGoodLeaf_5 (by decide) (fun c_5 => ?_) (fun c_5 => ?_)
    · skip
      refine lv_iconst (v := 0) hx hb dX0_isGoodLeaf_22 (by decide) ?_
      exact W.eq (by rw [if_pos c_5] <;> rfl) (J23_5 _ _ hP hS)
    · skip
      refine lv_lload_n hx hb dX0_isGoodLeaf_8 rfl (lv_at hl 0 rfl) ?_
      refine lv_ldc2 hx hb hown (hts (.constantLong RX0 134 14) (by decide +kernel)) dX0_isGoodLeaf_9 ?_
      refine lv_land hx hb dX0_isGoodLeaf_12 ?_
      refine lv_lconst (v := 0) hx hb dX0_isGoodLeaf_13 (by decide) ?_
      refine lq_eq (tgt := 22) hx hb dX0_isGoodLeaf_14 dX0_isGoodLeaf_15 (by decide) (fun c_15 => ?_) (fun c_15 => ?_)
      · skip
        refine lv_iconst (v := 0) hx hb dX0_isGoodLeaf_22 (by decide) ?_
        exact W.eq (by rw [if_neg c_5, if_pos c_15] <;> rfl) (J23_5 _ _ hP hS)
      · skip
        refine lv_iconst (v := 1) hx hb dX0_isGoodLeaf_18 (by decide) ?_
        refine lv_goto (tgt := 23) hx hb dX0_isGoodLeaf_19 (by decide) ?_
        exact W.eq (by rw [if_neg c_5, if_neg c_15] <;> rfl) (J23_5 _ _ hP hS)
def fx_grants (a0 : Int32) (a1 : Int64) (a2 : Int32) : Int32 := if (a1 &&& 64) = 0 then 0 else if a0 = 2 then if (a1 &&& 4) = 0 then 0 else if (a1 &&& 128) = 0 then 0 else 1 else if a0 = 1 then if (a1 &&& ((if a2 = 0 then 2 else 10 : Int64))) = 0 then 0 else 1 else if (a1 &&& 8) = 0 then 0 else 1
set_option maxHeartbeats 4000000 in
set_option maxRecDepth 100000 in
theorem ctx_grants (l : Launch) (sz : Nat) (a0 : Int32) (a1 : Int64) (a2 : Int32) : MPi l yX0_grants wsX0_grants ({ frames := 0, cells := 0, slots := 0, locals := 0 }) [.int a0, .long a1, .int a2] sz (fx_grants a0 a1 a2) := by
  refine Met.ofW (cc := cX0_grants) (maxL := 4) (ret := (some .boolean)) (by decide) rfl ?_
  intro p e s m args below meth c s₁ B hml hv
  obtain ⟨rfl, hsz⟩ := hv
  have hx := B.exec
  have hb := B.bytes
  have hr := B.returns
  have hts := atoms_spec (ws := wsX0_grants) B.pre
  have hown : s.vm.findClass RX0 = some m.cls := findClass_of_methodNamed B.named
  have hlocks := B.notSynchronized
  subst hsz
  generalize hAe : va_A [] s.heap.size = A
  have hA : ∀ q : Nat, s.heap.size ≤ q → A q := fun q h => by rw [← hAe]; exact Or.inr h
  have hS : va_S A s.heap s.heap [] := va_S.rf
  have hP : va_P (fun _ => m.cls, fun _ _ => 0) vwCl [] s.heap := fun k q h => by simp at h
  have hl := lv_entry ([.int a0, .long a1, .int a2]) (n := 4) (Nat.le_of_ble_eq_true rfl)
  rw [lg_entry_eq]
  generalize (lg_sl ([.int a0, .long a1, .int a2]) ++ List.replicate (4 - (lg_sl ([.int a0, .long a1, .int a2])).length) Slot.unset).toArray = ls at hl ⊢
  have hl : lv_has ls 4 [(0, .int a0), (1, .long a1), (3, .int a2)] := hl
  refine lv_lload_n hx hb dX0_grants_0 rfl (lv_at hl 1 rfl) ?_
  refine lv_ldc2 hx hb hown (hts (.constantLong RX0 148 64) (by decide +kernel)) dX0_grants_1 ?_
  refine lv_land hx hb dX0_grants_4 ?_
  refine lv_lconst (v := 0) hx hb dX0_grants_5 (by decide) ?_
  refine lq_ne (tgt := 12) hx hb dX0_grants_6 dX0_grants_7 (by decide) (fun c_7 => ?_) (fun c_7 => ?_)
  · skip
    refine lv_iload_n hx hb dX0_grants_12 rfl (lv_at hl 0 rfl) ?_
    refine lv_iconst (v := 2) hx hb dX0_grants_13 (by decide) ?_
    refine lv_icmp_ne (tgt := 43) hx hb dX0_grants_14 (by decide) (fun c_14 => ?_) (fun c_14 => ?_)
    · skip
      refine lv_iload_n hx hb dX0_grants_43 rfl (lv_at hl 0 rfl) ?_
      refine lv_iconst (v := 1) hx hb dX0_grants_44 (by decide) ?_
      refine lv_icmp_ne (tgt := 74) hx hb dX0_grants_45 (by decide) (fun c_45 => ?_) (fun c_45 => ?_)
      · skip
        refine lv_lload_n hx hb dX0_grants_74 rfl (lv_at hl 1 rfl) ?_
        refine lv_ldc2 hx hb hown (hts (.constantLong RX0 156 8) (by decide +kernel)) dX0_grants_75 ?_
        refine lv_land hx hb dX0_grants_78 ?_
        refine lv_lconst (v := 0) hx hb dX0_grants_79 (by decide) ?_
        refine lq_eq (tgt := 88) hx hb dX0_grants_80 dX0_grants_81 (by decide) (fun c_81 => ?_) (fun c_81 => ?_)
        · skip
          refine lv_iconst (v := 0) hx hb dX0_grants_88 (by decide) ?_
          exact W.zret (v := 0) (ty := .boolean) hx hb hr nb_0 (fun t ht hW => ⟨⟨_, (), rfl, by first | (rw [fx_grants, if_neg c_7, if_neg c_14, if_neg c_45, if_pos c_81]; done) | (simp only [fx_grants, if_neg c_7, if_neg c_14, if_neg c_45, if_pos c_81]; done) | (rw [fx_grants, if_neg c_7, if_neg c_14, if_neg c_45, if_pos c_81] <;> rfl), trivial⟩, hS.F ht⟩) hS.2.2 dX0_grants_89
        · skip
          refine lv_iconst (v := 1) hx hb dX0_grants_84 (by decide) ?_
          refine lv_goto (tgt := 89) hx hb dX0_grants_85 (by decide) ?_
          exact W.zret (v := 1) (ty := .boolean) hx hb hr nb_1 (fun t ht hW => ⟨⟨_, (), rfl, by first | (rw [fx_grants, if_neg c_7, if_neg c_14, if_neg c_45, if_neg c_81]; done) | (simp only [fx_grants, if_neg c_7, if_neg c_14, if_neg c_45, if_neg c_81]; done) | (rw [fx_grants, if_neg c_7, if_neg c_14, if_neg c_45, if_neg c_81] <;> rfl), trivial⟩, hS.F ht⟩) hS.2.2 dX0_grants_89
      · skip
        refine lv_lload_n hx hb dX0_grants_48 rfl (lv_at hl 1 rfl) ?_
        refine lv_iload_n hx hb dX0_grants_49 rfl (lv_at hl 2 rfl) ?_
        refine lj_l (j := 62) (z0 := if a2 = 0 then 2 else 10) (rest := [.long a1]) hP hS (fun H locs hP hS z_1 ez_1 => ?_) (fun J62_50 => ?_)
        · skip
          refine lv_land hx hb dX0_grants_62 ?_
          refine lv_lconst (v := 0) hx hb dX0_grants_63 (by decide) ?_
          refine lq_eq (tgt := 72) hx hb dX0_grants_64 dX0_grants_65 (by decide) (fun c_65 => ?_) (fun c_65 => ?_)
          · skip
            refine lv_iconst (v := 0) hx hb dX0_grants_72 (by decide) ?_
            exact W.zret (v := 0) (ty := .boolean) hx hb hr nb_0 (fun t ht hW => ⟨⟨_, (), rfl, by subst ez_1; first | (rw [fx_grants, if_neg c_7, if_neg c_14, if_pos c_45, if_pos c_65]; done) | (simp only [fx_grants, if_neg c_7, if_neg c_14, if_pos c_45, if_pos c_65]; done) | (rw [fx_grants, if_neg c_7, if_neg c_14, if_pos c_45, if_pos c_65] <;> rfl), trivial⟩, hS.F ht⟩) hS.2.2 dX0_grants_73
          · skip
            refine lv_iconst (v := 1) hx hb dX0_grants_68 (by decide) ?_
            refine lv_goto (tgt := 73) hx hb dX0_grants_69 (by decide) ?_
            exact W.zret (v := 1) (ty := .boolean) hx hb hr nb_1 (fun t ht hW => ⟨⟨_, (), rfl, by subst ez_1; first | (rw [fx_grants, if_neg c_7, if_neg c_14, if_pos c_45, if_neg c_65]; done) | (simp only [fx_grants, if_neg c_7, if_neg c_14, if_pos c_45, if_neg c_65]; done) | (rw [fx_grants, if_neg c_7, if_neg c_14, if_pos c_45, if_neg c_65] <;> rfl), trivial⟩, hS.F ht⟩) hS.2.2 dX0_grants_73
        · skip
          refine lv_if_eq (tgt := 59) hx hb dX0_grants_50 (by decide) (fun c_50 => ?_) (fun c_50 => ?_)
          · skip
            refine lv_ldc2 hx hb hown (hts (.constantLong RX0 154 2) (by decide +kernel)) dX0_grants_59 ?_
            exact W.eq (by rw [if_pos c_50] <;> rfl) (J62_50 _ _ hP hS)
          · skip
            refine lv_ldc2 hx hb hown (hts (.constantLong RX0 152 10) (by decide +kernel)) dX0_grants_53 ?_
            refine lv_goto (tgt := 62) hx hb dX0_grants_56 (by decide) ?_
            exact W.eq (by rw [if_neg c_50] <;> rfl) (J62_50 _ _ hP hS)
    · skip
      refine lv_lload_n hx hb dX0_grants_17 rfl (lv_at hl 1 rfl) ?_
      refine lv_ldc2 hx hb hown (hts (.constantLong RX0 128 4) (by decide +kernel)) dX0_grants_18 ?_
      refine lv_land hx hb dX0_grants_21 ?_
      refine lv_lconst (v := 0) hx hb dX0_grants_22 (by decide) ?_
      refine lq_eq (tgt := 41) hx hb dX0_grants_23 dX0_grants_24 (by decide) (fun c_24 => ?_) (fun c_24 => ?_)
      · skip
        refine lv_iconst (v := 0) hx hb dX0_grants_41 (by decide) ?_
        exact W.zret (v := 0) (ty := .boolean) hx hb hr nb_0 (fun t ht hW => ⟨⟨_, (), rfl, by first | (rw [fx_grants, if_neg c_7, if_pos c_14, if_pos c_24]; done) | (simp only [fx_grants, if_neg c_7, if_pos c_14, if_pos c_24]; done) | (rw [fx_grants, if_neg c_7, if_pos c_14, if_pos c_24] <;> rfl), trivial⟩, hS.F ht⟩) hS.2.2 dX0_grants_42
      · skip
        refine lv_lload_n hx hb dX0_grants_27 rfl (lv_at hl 1 rfl) ?_
        refine lv_ldc2 hx hb hown (hts (.constantLong RX0 150 128) (by decide +kernel)) dX0_grants_28 ?_
        refine lv_land hx hb dX0_grants_31 ?_
        refine lv_lconst (v := 0) hx hb dX0_grants_32 (by decide) ?_
        refine lq_eq (tgt := 41) hx hb dX0_grants_33 dX0_grants_34 (by decide) (fun c_34 => ?_) (fun c_34 => ?_)
        · skip
          refine lv_iconst (v := 0) hx hb dX0_grants_41 (by decide) ?_
          exact W.zret (v := 0) (ty := .boolean) hx hb hr nb_0 (fun t ht hW => ⟨⟨_, (), rfl, by first | (rw [fx_grants, if_neg c_7, if_pos c_14, if_neg c_24, if_pos c_34]; done) | (simp only [fx_grants, if_neg c_7, if_pos c_14, if_neg c_24, if_pos c_34]; done) | (rw [fx_grants, if_neg c_7, if_pos c_14, if_neg c_24, if_pos c_34] <;> rfl), trivial⟩, hS.F ht⟩) hS.2.2 dX0_grants_42
        · skip
          refine lv_iconst (v := 1) hx hb dX0_grants_37 (by decide) ?_
          refine lv_goto (tgt := 42) hx hb dX0_grants_38 (by decide) ?_
          exact W.zret (v := 1) (ty := .boolean) hx hb hr nb_1 (fun t ht hW => ⟨⟨_, (), rfl, by first | (rw [fx_grants, if_neg c_7, if_pos c_14, if_neg c_24, if_neg c_34]; done) | (simp only [fx_grants, if_neg c_7, if_pos c_14, if_neg c_24, if_neg c_34]; done) | (rw [fx_grants, if_neg c_7, if_pos c_14, if_neg c_24, if_neg c_34] <;> rfl), trivial⟩, hS.F ht⟩) hS.2.2 dX0_grants_42
  · skip
    refine lv_iconst (v := 0) hx hb dX0_grants_10 (by decide) ?_
    exact W.zret (v := 0) (ty := .boolean) hx hb hr nb_0 (fun t ht hW => ⟨⟨_, (), rfl, by first | (rw [fx_grants, if_pos c_7]; done) | (simp only [fx_grants, if_pos c_7]; done) | (rw [fx_grants, if_pos c_7] <;> rfl), trivial⟩, hS.F ht⟩) hS.2.2 dX0_grants_11
def fx_result (a0 : Int64) (a1 : Int32) (a2 : Int64) : Int64 := (((jlushr a0 10) * 4096) &&& (((if a1 = 0 then 4095 else 4194303 : Int64)) ^^^ ((-1)))) ||| (a2 &&& ((if a1 = 0 then 4095 else 4194303 : Int64)))
set_option maxHeartbeats 4000000 in
set_option maxRecDepth 100000 in
theorem ctx_result (l : Launch) (sz : Nat) (a0 : Int64) (a1 : Int32) (a2 : Int64) : MPl l yX0_result wsX0_result ({ frames := 0, cells := 0, slots := 0, locals := 0 }) [.long a0, .int a1, .long a2] sz (fx_result a0 a1 a2) := by
  refine Met.ofW (cc := cX0_result) (maxL := 7) (ret := (some .long)) (by decide) rfl ?_
  intro p e s m args below meth c s₁ B hml hv
  obtain ⟨rfl, hsz⟩ := hv
  have hx := B.exec
  have hb := B.bytes
  have hr := B.returns
  have hts := atoms_spec (ws := wsX0_result) B.pre
  have hown : s.vm.findClass RX0 = some m.cls := findClass_of_methodNamed B.named
  have hlocks := B.notSynchronized
  subst hsz
  generalize hAe : va_A [] s.heap.size = A
  have hA : ∀ q : Nat, s.heap.size ≤ q → A q := fun q h => by rw [← hAe]; exact Or.inr h
  have hS : va_S A s.heap s.heap [] := va_S.rf
  have hP : va_P (fun _ => m.cls, fun _ _ => 0) vwCl [] s.heap := fun k q h => by simp at h
  have hl := lv_entry ([.long a0, .int a1, .long a2]) (n := 7) (Nat.le_of_ble_eq_true rfl)
  rw [lg_entry_eq]
  generalize (lg_sl ([.long a0, .int a1, .long a2]) ++ List.replicate (7 - (lg_sl ([.long a0, .int a1, .long a2])).length) Slot.unset).toArray = ls at hl ⊢
  have hl : lv_has ls 7 [(0, .long a0), (2, .int a1), (3, .long a2)] := hl
  refine lv_iload_n hx hb dX0_result_0 rfl (lv_at hl 1 rfl) ?_
  refine lj_l (j := 13) (z0 := if a1 = 0 then 4095 else 4194303) (rest := []) hP hS (fun H locs hP hS z_1 ez_1 => ?_) (fun J13_1 => ?_)
  · skip
    refine lv_lstore (lv' := [(5, .long z_1), (0, .long a0), (2, .int a1), (3, .long a2)]) hx hb dX0_result_13 hl (by decide) rfl (fun ls hl => ?_)
    refine lv_lload_n hx hb dX0_result_15 rfl (lv_at hl 1 rfl) ?_
    refine lv_bipush (v := 10) hx hb dX0_result_16 (by decide) ?_
    refine lv_lushr (v := jlushr a0 10) hx hb dX0_result_18 rfl ?_
    refine lv_ldc2 hx hb hown (hts (.constantLong RX0 69 4096) (by decide +kernel)) dX0_result_19 ?_
    refine lv_lmul hx hb dX0_result_22 ?_
    refine lv_lload hx hb dX0_result_23 (lv_at hl 0 rfl) ?_
    refine lv_ldc2 hx hb hown (hts (.constantLong RX0 162 (-1)) (by decide +kernel)) dX0_result_25 ?_
    refine lv_lxor hx hb dX0_result_28 ?_
    refine lv_land hx hb dX0_result_29 ?_
    refine lv_lload_n hx hb dX0_result_30 rfl (lv_at hl 3 rfl) ?_
    refine lv_lload hx hb dX0_result_31 (lv_at hl 0 rfl) ?_
    refine lv_land hx hb dX0_result_33 ?_
    refine lv_lor hx hb dX0_result_34 ?_
    exact W.lret (v := (((jlushr a0 10) * 4096) &&& (z_1 ^^^ ((-1)))) ||| (a2 &&& z_1)) hx hb hr (fun t ht hW => ⟨⟨_, (), rfl, by subst ez_1; rfl, trivial⟩, hS.F ht⟩) hS.2.2 dX0_result_35
  · skip
    refine lv_if_eq (tgt := 10) hx hb dX0_result_1 (by decide) (fun c_1 => ?_) (fun c_1 => ?_)
    · skip
      refine lv_ldc2 hx hb hown (hts (.constantLong RX0 160 4095) (by decide +kernel)) dX0_result_10 ?_
      exact W.eq (by rw [if_pos c_1] <;> rfl) (J13_1 _ _ hP hS)
    · skip
      refine lv_ldc2 hx hb hown (hts (.constantLong RX0 158 4194303) (by decide +kernel)) dX0_result_4 ?_
      refine lv_goto (tgt := 13) hx hb dX0_result_7 (by decide) ?_
      exact W.eq (by rw [if_neg c_1] <;> rfl) (J13_1 _ _ hP hS)
def fx_noMemory (a0 : Int32) : Int64 := if a0 = 0 then (-1) else if a0 = 2 then (-7) else (-5)
set_option maxHeartbeats 4000000 in
set_option maxRecDepth 100000 in
theorem ctx_noMemory (l : Launch) (sz : Nat) (a0 : Int32) : MPl l yX0_noMemory wsX0_noMemory ({ frames := 0, cells := 0, slots := 0, locals := 0 }) [.int a0] sz (fx_noMemory a0) := by
  refine Met.ofW (cc := cX0_noMemory) (maxL := 1) (ret := (some .long)) (by decide) rfl ?_
  intro p e s m args below meth c s₁ B hml hv
  obtain ⟨rfl, hsz⟩ := hv
  have hx := B.exec
  have hb := B.bytes
  have hr := B.returns
  have hts := atoms_spec (ws := wsX0_noMemory) B.pre
  have hown : s.vm.findClass RX0 = some m.cls := findClass_of_methodNamed B.named
  have hlocks := B.notSynchronized
  subst hsz
  generalize hAe : va_A [] s.heap.size = A
  have hA : ∀ q : Nat, s.heap.size ≤ q → A q := fun q h => by rw [← hAe]; exact Or.inr h
  have hS : va_S A s.heap s.heap [] := va_S.rf
  have hP : va_P (fun _ => m.cls, fun _ _ => 0) vwCl [] s.heap := fun k q h => by simp at h
  have hl := lv_entry ([.int a0]) (n := 1) (Nat.le_of_ble_eq_true rfl)
  rw [lg_entry_eq]
  generalize (lg_sl ([.int a0]) ++ List.replicate (1 - (lg_sl ([.int a0])).length) Slot.unset).toArray = ls at hl ⊢
  have hl : lv_has ls 1 [(0, .int a0)] := hl
  refine lv_iload_n hx hb dX0_noMemory_0 rfl (lv_at hl 0 rfl) ?_
  refine lv_if_ne (tgt := 10) hx hb dX0_noMemory_1 (by decide) (fun c_1 => ?_) (fun c_1 => ?_)
  · skip
    refine lv_iload_n hx hb dX0_noMemory_10 rfl (lv_at hl 0 rfl) ?_
    refine lv_iconst (v := 2) hx hb dX0_noMemory_11 (by decide) ?_
    refine lv_icmp_ne (tgt := 21) hx hb dX0_noMemory_12 (by decide) (fun c_12 => ?_) (fun c_12 => ?_)
    · skip
      refine lv_ldc2 hx hb hown (hts (.constantLong RX0 166 (-5)) (by decide +kernel)) dX0_noMemory_21 ?_
      exact W.lret (v := (-5)) hx hb hr (fun t ht hW => ⟨⟨_, (), rfl, by first | (rw [fx_noMemory, if_neg c_1, if_neg c_12]; done) | (simp only [fx_noMemory, if_neg c_1, if_neg c_12]; done) | (rw [fx_noMemory, if_neg c_1, if_neg c_12] <;> rfl), trivial⟩, hS.F ht⟩) hS.2.2 dX0_noMemory_24
    · skip
      refine lv_ldc2 hx hb hown (hts (.constantLong RX0 164 (-7)) (by decide +kernel)) dX0_noMemory_15 ?_
      refine lv_goto (tgt := 24) hx hb dX0_noMemory_18 (by decide) ?_
      exact W.lret (v := (-7)) hx hb hr (fun t ht hW => ⟨⟨_, (), rfl, by first | (rw [fx_noMemory, if_neg c_1, if_pos c_12]; done) | (simp only [fx_noMemory, if_neg c_1, if_pos c_12]; done) | (rw [fx_noMemory, if_neg c_1, if_pos c_12] <;> rfl), trivial⟩, hS.F ht⟩) hS.2.2 dX0_noMemory_24
  · skip
    refine lv_ldc2 hx hb hown (hts (.constantLong RX0 162 (-1)) (by decide +kernel)) dX0_noMemory_4 ?_
    refine lv_goto (tgt := 24) hx hb dX0_noMemory_7 (by decide) ?_
    exact W.lret (v := (-1)) hx hb hr (fun t ht hW => ⟨⟨_, (), rfl, by first | (rw [fx_noMemory, if_pos c_1]; done) | (simp only [fx_noMemory, if_pos c_1]; done) | (rw [fx_noMemory, if_pos c_1] <;> rfl), trivial⟩, hS.F ht⟩) hS.2.2 dX0_noMemory_24
def fx_firstFault (a0 : Int32) : Int64 := if a0 = 0 then (-12) else if a0 = 2 then (-15) else (-13)
set_option maxHeartbeats 4000000 in
set_option maxRecDepth 100000 in
theorem ctx_firstFault (l : Launch) (sz : Nat) (a0 : Int32) : MPl l yX0_firstFault wsX0_firstFault ({ frames := 0, cells := 0, slots := 0, locals := 0 }) [.int a0] sz (fx_firstFault a0) := by
  refine Met.ofW (cc := cX0_firstFault) (maxL := 1) (ret := (some .long)) (by decide) rfl ?_
  intro p e s m args below meth c s₁ B hml hv
  obtain ⟨rfl, hsz⟩ := hv
  have hx := B.exec
  have hb := B.bytes
  have hr := B.returns
  have hts := atoms_spec (ws := wsX0_firstFault) B.pre
  have hown : s.vm.findClass RX0 = some m.cls := findClass_of_methodNamed B.named
  have hlocks := B.notSynchronized
  subst hsz
  generalize hAe : va_A [] s.heap.size = A
  have hA : ∀ q : Nat, s.heap.size ≤ q → A q := fun q h => by rw [← hAe]; exact Or.inr h
  have hS : va_S A s.heap s.heap [] := va_S.rf
  have hP : va_P (fun _ => m.cls, fun _ _ => 0) vwCl [] s.heap := fun k q h => by simp at h
  have hl := lv_entry ([.int a0]) (n := 1) (Nat.le_of_ble_eq_true rfl)
  rw [lg_entry_eq]
  generalize (lg_sl ([.int a0]) ++ List.replicate (1 - (lg_sl ([.int a0])).length) Slot.unset).toArray = ls at hl ⊢
  have hl : lv_has ls 1 [(0, .int a0)] := hl
  refine lv_iload_n hx hb dX0_firstFault_0 rfl (lv_at hl 0 rfl) ?_
  refine lv_if_ne (tgt := 10) hx hb dX0_firstFault_1 (by decide) (fun c_1 => ?_) (fun c_1 => ?_)
  · skip
    refine lv_iload_n hx hb dX0_firstFault_10 rfl (lv_at hl 0 rfl) ?_
    refine lv_iconst (v := 2) hx hb dX0_firstFault_11 (by decide) ?_
    refine lv_icmp_ne (tgt := 21) hx hb dX0_firstFault_12 (by decide) (fun c_12 => ?_) (fun c_12 => ?_)
    · skip
      refine lv_ldc2 hx hb hown (hts (.constantLong RX0 172 (-13)) (by decide +kernel)) dX0_firstFault_21 ?_
      exact W.lret (v := (-13)) hx hb hr (fun t ht hW => ⟨⟨_, (), rfl, by first | (rw [fx_firstFault, if_neg c_1, if_neg c_12]; done) | (simp only [fx_firstFault, if_neg c_1, if_neg c_12]; done) | (rw [fx_firstFault, if_neg c_1, if_neg c_12] <;> rfl), trivial⟩, hS.F ht⟩) hS.2.2 dX0_firstFault_24
    · skip
      refine lv_ldc2 hx hb hown (hts (.constantLong RX0 170 (-15)) (by decide +kernel)) dX0_firstFault_15 ?_
      refine lv_goto (tgt := 24) hx hb dX0_firstFault_18 (by decide) ?_
      exact W.lret (v := (-15)) hx hb hr (fun t ht hW => ⟨⟨_, (), rfl, by first | (rw [fx_firstFault, if_neg c_1, if_pos c_12]; done) | (simp only [fx_firstFault, if_neg c_1, if_pos c_12]; done) | (rw [fx_firstFault, if_neg c_1, if_pos c_12] <;> rfl), trivial⟩, hS.F ht⟩) hS.2.2 dX0_firstFault_24
  · skip
    refine lv_ldc2 hx hb hown (hts (.constantLong RX0 168 (-12)) (by decide +kernel)) dX0_firstFault_4 ?_
    refine lv_goto (tgt := 24) hx hb dX0_firstFault_7 (by decide) ?_
    exact W.lret (v := (-12)) hx hb hr (fun t ht hW => ⟨⟨_, (), rfl, by first | (rw [fx_firstFault, if_pos c_1]; done) | (simp only [fx_firstFault, if_pos c_1]; done) | (rw [fx_firstFault, if_pos c_1] <;> rfl), trivial⟩, hS.F ht⟩) hS.2.2 dX0_firstFault_24
def fx_secondFault (a0 : Int32) : Int64 := if a0 = 0 then (-20) else if a0 = 2 then (-23) else (-21)
set_option maxHeartbeats 4000000 in
set_option maxRecDepth 100000 in
theorem ctx_secondFault (l : Launch) (sz : Nat) (a0 : Int32) : MPl l yX0_secondFault wsX0_secondFault ({ frames := 0, cells := 0, slots := 0, locals := 0 }) [.int a0] sz (fx_secondFault a0) := by
  refine Met.ofW (cc := cX0_secondFault) (maxL := 1) (ret := (some .long)) (by decide) rfl ?_
  intro p e s m args below meth c s₁ B hml hv
  obtain ⟨rfl, hsz⟩ := hv
  have hx := B.exec
  have hb := B.bytes
  have hr := B.returns
  have hts := atoms_spec (ws := wsX0_secondFault) B.pre
  have hown : s.vm.findClass RX0 = some m.cls := findClass_of_methodNamed B.named
  have hlocks := B.notSynchronized
  subst hsz
  generalize hAe : va_A [] s.heap.size = A
  have hA : ∀ q : Nat, s.heap.size ≤ q → A q := fun q h => by rw [← hAe]; exact Or.inr h
  have hS : va_S A s.heap s.heap [] := va_S.rf
  have hP : va_P (fun _ => m.cls, fun _ _ => 0) vwCl [] s.heap := fun k q h => by simp at h
  have hl := lv_entry ([.int a0]) (n := 1) (Nat.le_of_ble_eq_true rfl)
  rw [lg_entry_eq]
  generalize (lg_sl ([.int a0]) ++ List.replicate (1 - (lg_sl ([.int a0])).length) Slot.unset).toArray = ls at hl ⊢
  have hl : lv_has ls 1 [(0, .int a0)] := hl
  refine lv_iload_n hx hb dX0_secondFault_0 rfl (lv_at hl 0 rfl) ?_
  refine lv_if_ne (tgt := 10) hx hb dX0_secondFault_1 (by decide) (fun c_1 => ?_) (fun c_1 => ?_)
  · skip
    refine lv_iload_n hx hb dX0_secondFault_10 rfl (lv_at hl 0 rfl) ?_
    refine lv_iconst (v := 2) hx hb dX0_secondFault_11 (by decide) ?_
    refine lv_icmp_ne (tgt := 21) hx hb dX0_secondFault_12 (by decide) (fun c_12 => ?_) (fun c_12 => ?_)
    · skip
      refine lv_ldc2 hx hb hown (hts (.constantLong RX0 178 (-21)) (by decide +kernel)) dX0_secondFault_21 ?_
      exact W.lret (v := (-21)) hx hb hr (fun t ht hW => ⟨⟨_, (), rfl, by first | (rw [fx_secondFault, if_neg c_1, if_neg c_12]; done) | (simp only [fx_secondFault, if_neg c_1, if_neg c_12]; done) | (rw [fx_secondFault, if_neg c_1, if_neg c_12] <;> rfl), trivial⟩, hS.F ht⟩) hS.2.2 dX0_secondFault_24
    · skip
      refine lv_ldc2 hx hb hown (hts (.constantLong RX0 176 (-23)) (by decide +kernel)) dX0_secondFault_15 ?_
      refine lv_goto (tgt := 24) hx hb dX0_secondFault_18 (by decide) ?_
      exact W.lret (v := (-23)) hx hb hr (fun t ht hW => ⟨⟨_, (), rfl, by first | (rw [fx_secondFault, if_neg c_1, if_pos c_12]; done) | (simp only [fx_secondFault, if_neg c_1, if_pos c_12]; done) | (rw [fx_secondFault, if_neg c_1, if_pos c_12] <;> rfl), trivial⟩, hS.F ht⟩) hS.2.2 dX0_secondFault_24
  · skip
    refine lv_ldc2 hx hb hown (hts (.constantLong RX0 174 (-20)) (by decide +kernel)) dX0_secondFault_4 ?_
    refine lv_goto (tgt := 24) hx hb dX0_secondFault_7 (by decide) ?_
    exact W.lret (v := (-20)) hx hb hr (fun t ht hW => ⟨⟨_, (), rfl, by first | (rw [fx_secondFault, if_pos c_1]; done) | (simp only [fx_secondFault, if_pos c_1]; done) | (rw [fx_secondFault, if_pos c_1] <;> rfl), trivial⟩, hS.F ht⟩) hS.2.2 dX0_secondFault_24
