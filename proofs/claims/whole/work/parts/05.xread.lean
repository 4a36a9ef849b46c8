/-! StageWalker: methods that read, and the second stage -/
def fx_entryAt (m_words : Nat → Int32) (a0 : Int32) (a1 : Int64) : Int64 := if a1 < 0 then a1 else if a1 < 262144 then ((m_words (a1.toInt32 / 4).toNatClampNeg).toInt64) &&& 4294967295 else (fx_noMemory a0)
set_option maxHeartbeats 4000000 in
set_option maxRecDepth 100000 in
theorem ctx_entryAt (l : Launch) (dC : Nat → ClassId) (dI : Nat → Nat → Nat) (h0 : Nat) (q_words : Nat) (k_words : ClassId) (sz : Nat) (v_atp : Int32) (v_vsAtp : Int32) (v_hgatp : Int32) (v_rights : Int32) (v_latestPlace : Int32) (v_latestSecond : Int32) (v_latestEntry : Int32) (v_refusedAddress : Int64) (v_refusedEntry : Int32) (m_words : Nat → Int32) (a0 : Int32) (a1 : Int64) : MRl l yX0_entryAt wsX0_entryAt ({ frames := 1, cells := 0, slots := 0, locals := 20 }) (dC, dI) vwCl [(k_words, .int)] [.ref h0, .int a0, .long a1] sz (wx h0 q_words k_words v_atp v_vsAtp v_hgatp v_rights v_latestPlace v_latestSecond v_latestEntry v_refusedAddress v_refusedEntry m_words) (fx_entryAt m_words a0 a1) := by
  refine Met.ofW (cc := cX0_entryAt) (maxL := 4) (ret := (some .long)) (by decide) rfl ?_
  intro p e s m args below meth c s₁ B hml hv
  obtain ⟨rfl, hsz, hP, hK, hD0⟩ := hv
  have hx := B.exec
  have hb := B.bytes
  have hr := B.returns
  have hts := atoms_spec (ws := wsX0_entryAt) B.pre
  have hown : s.vm.findClass RX0 = some m.cls := findClass_of_methodNamed B.named
  have hlocks := B.notSynchronized
  subst hsz
  have hwX : ∀ w ∈ u_ws RX0 TX0 10, w ∈ wsX0_entryAt := by decide +kernel
  have hD := hD0.self (sz := s.heap.size)
  generalize hAe : va_A (wx h0 q_words k_words v_atp v_vsAtp v_hgatp v_rights v_latestPlace v_latestSecond v_latestEntry v_refusedAddress v_refusedEntry m_words) s.heap.size = A at hD ⊢
  have hA : ∀ q : Nat, s.heap.size ≤ q → A q := fun q h => by rw [← hAe]; exact Or.inr h
  have hS : va_S A s.heap s.heap [] := va_S.rf
  have hP : va_P (dC, dI) vwCl (wx h0 q_words k_words v_atp v_vsAtp v_hgatp v_rights v_latestPlace v_latestSecond v_latestEntry v_refusedAddress v_refusedEntry m_words) s.heap := hP
  have hl := lv_entry ([.ref h0, .int a0, .long a1]) (n := 4) (Nat.le_of_ble_eq_true rfl)
  rw [lg_entry_eq]
  generalize (lg_sl ([.ref h0, .int a0, .long a1]) ++ List.replicate (4 - (lg_sl ([.ref h0, .int a0, .long a1])).length) Slot.unset).toArray = ls at hl ⊢
  have hl : lv_has ls 4 [(0, .ref h0), (1, .int a0), (2, .long a1)] := hl
  refine lv_lload_n hx hb dX0_entryAt_0 rfl (lv_at hl 2 rfl) ?_
  refine lv_lconst (v := 0) hx hb dX0_entryAt_1 (by decide) ?_
  refine lq_ge (tgt := 8) hx hb dX0_entryAt_2 dX0_entryAt_3 (by decide) (fun c_3 => ?_) (fun c_3 => ?_)
  · skip
    refine lv_lload_n hx hb dX0_entryAt_8 rfl (lv_at hl 2 rfl) ?_
    refine lv_ldc2 hx hb hown (hts (.constantLong RX0 83 262144) (by decide +kernel)) dX0_entryAt_9 ?_
    refine lq_lt (tgt := 21) hx hb dX0_entryAt_12 dX0_entryAt_13 (by decide) (fun c_13 => ?_) (fun c_13 => ?_)
    · skip
      refine lv_aload_n hx hb dX0_entryAt_21 rfl (lv_at hl 0 rfl) ?_
      refine va_get (D := (dC, dI)) (ci := 0) (v := .ref q_words) (C := RX0) (T := TX0) (N := 10) hx hb hts hwX hown hK hP 0 rfl rfl 0 (by decide) (hts (.fieldLink RX0 10 "StageWalker" "words" "[I") (by decide +kernel)) (fun _ h9 => h9) rfl dX0_entryAt_22 ?_
      refine lv_lload_n hx hb dX0_entryAt_25 rfl (lv_at hl 2 rfl) ?_
      refine lv_l2i (v := a1.toInt32) hx hb dX0_entryAt_26 rfl ?_
      refine lv_iconst (v := 4) hx hb dX0_entryAt_27 (by decide) ?_
      refine lv_idiv hx hb dX0_entryAt_28 (by decide) ?_
      refine va_iald (cA := k_words) (f := m_words) hx hb hK hP 1 0 rfl rfl (i := a1.toInt32 / 4) (vi_place c_3 c_13) dX0_entryAt_29 ?_
      refine lv_i2l (v := (m_words (a1.toInt32 / 4).toNatClampNeg).toInt64) hx hb dX0_entryAt_30 rfl ?_
      refine lv_ldc2 hx hb hown (hts (.constantLong RX0 52 4294967295) (by decide +kernel)) dX0_entryAt_31 ?_
      refine lv_land hx hb dX0_entryAt_34 ?_
      exact W.lret (v := ((m_words (a1.toInt32 / 4).toNatClampNeg).toInt64) &&& 4294967295) hx hb hr (fun t ht hW => ⟨⟨_, (), rfl, by first | (rw [fx_entryAt, if_neg c_3, if_pos c_13]; done) | (simp only [fx_entryAt, if_neg c_3, if_pos c_13]; done) | (rw [fx_entryAt, if_neg c_3, if_pos c_13] <;> rfl), by rw [ht]; exact hP, va_K.moved hW.alike hK, hD⟩, hS.F ht⟩) hS.2.2 dX0_entryAt_35
    · skip
      refine lv_iload_n hx hb dX0_entryAt_16 rfl (lv_at hl 1 rfl) ?_
      refine cs_l (va_runS (As := [.int a0]) (rest := []) ⟨hx, hb, hml, hown, hts⟩ (ctx_noMemory l s.heap.size a0) (va_cwS 1 hts gX0_entryAt_X0_noMemory rfl rfl rfl (by decide +kernel) ⟨Nat.le_of_ble_eq_true rfl, Nat.le_of_ble_eq_true rfl⟩) ⟨fun a U g mk q => q, fun U hU hW => ⟨rfl, congrArg Array.size hU⟩⟩ rfl rfl hl.1 rfl (lv_room (Nat.le_of_ble_eq_true rfl)) dX0_entryAt_17 ⟨Nat.zero_le _, Nat.zero_le _⟩) hA hP hS (fun H locs hP hS => ?_)
      exact W.lret (v := (fx_noMemory a0)) hx hb hr (fun t ht hW => ⟨⟨_, (), rfl, by first | (rw [fx_entryAt, if_neg c_3, if_neg c_13]; done) | (simp only [fx_entryAt, if_neg c_3, if_neg c_13]; done) | (rw [fx_entryAt, if_neg c_3, if_neg c_13] <;> rfl), by rw [ht]; exact hP, va_K.moved hW.alike hK, hD⟩, hS.F ht⟩) hS.2.2 dX0_entryAt_20
  · skip
    refine lv_lload_n hx hb dX0_entryAt_6 rfl (lv_at hl 2 rfl) ?_
    exact W.lret (v := a1) hx hb hr (fun t ht hW => ⟨⟨_, (), rfl, by first | (rw [fx_entryAt, if_pos c_3]; done) | (simp only [fx_entryAt, if_pos c_3]; done) | (rw [fx_entryAt, if_pos c_3] <;> rfl), by rw [ht]; exact hP, va_K.moved hW.alike hK, hD⟩, hS.F ht⟩) hS.2.2 dX0_entryAt_7
def fx_userBitFits (v_rights : Int32) (a0 : Int32) (a1 : Int32) (a2 : Int64) : Int32 := if a0 = 0 then (if (a2 &&& 16) = 0 then 0 else 1 : Int32) else if a0 = 2 then (if (a2 &&& 16) = 0 then 0 else 1 : Int32) else if ((if (a2 &&& 16) = 0 then 0 else 1 : Int32)) = 0 then 1 else if a1 = 0 then 0 else if (v_rights &&& ((if ((fx_isVirtual a0)) = 0 then 1 else 4 : Int32))) = 0 then 0 else 1
set_option maxHeartbeats 4000000 in
set_option maxRecDepth 100000 in
theorem ctx_userBitFits (l : Launch) (dC : Nat → ClassId) (dI : Nat → Nat → Nat) (h0 : Nat) (q_words : Nat) (k_words : ClassId) (sz : Nat) (v_atp : Int32) (v_vsAtp : Int32) (v_hgatp : Int32) (v_rights : Int32) (v_latestPlace : Int32) (v_latestSecond : Int32) (v_latestEntry : Int32) (v_refusedAddress : Int64) (v_refusedEntry : Int32) (m_words : Nat → Int32) (a0 : Int32) (a1 : Int32) (a2 : Int64) : MRi l yX0_userBitFits wsX0_userBitFits ({ frames := 1, cells := 0, slots := 0, locals := 20 }) (dC, dI) vwCl [(k_words, .int)] [.ref h0, .int a0, .int a1, .long a2] sz (wx h0 q_words k_words v_atp v_vsAtp v_hgatp v_rights v_latestPlace v_latestSecond v_latestEntry v_refusedAddress v_refusedEntry m_words) (fx_userBitFits v_rights a0 a1 a2) := by
  refine Met.ofW (cc := cX0_userBitFits) (maxL := 7) (ret := (some .boolean)) (by decide) rfl ?_
  intro p e s m args below meth c s₁ B hml hv
  obtain ⟨rfl, hsz, hP, hK, hD0⟩ := hv
  have hx := B.exec
  have hb := B.bytes
  have hr := B.returns
  have hts := atoms_spec (ws := wsX0_userBitFits) B.pre
  have hown : s.vm.findClass RX0 = some m.cls := findClass_of_methodNamed B.named
  have hlocks := B.notSynchronized
  subst hsz
  have hwX : ∀ w ∈ u_ws RX0 TX0 10, w ∈ wsX0_userBitFits := by decide +kernel
  have hD := hD0.self (sz := s.heap.size)
  generalize hAe : va_A (wx h0 q_words k_words v_atp v_vsAtp v_hgatp v_rights v_latestPlace v_latestSecond v_latestEntry v_refusedAddress v_refusedEntry m_words) s.heap.size = A at hD ⊢
  have hA : ∀ q : Nat, s.heap.size ≤ q → A q := fun q h => by rw [← hAe]; exact Or.inr h
  have hS : va_S A s.heap s.heap [] := va_S.rf
  have hP : va_P (dC, dI) vwCl (wx h0 q_words k_words v_atp v_vsAtp v_hgatp v_rights v_latestPlace v_latestSecond v_latestEntry v_refusedAddress v_refusedEntry m_words) s.heap := hP
  have hl := lv_entry ([.ref h0, .int a0, .int a1, .long a2]) (n := 7) (Nat.le_of_ble_eq_true rfl)
  rw [lg_entry_eq]
  generalize (lg_sl ([.ref h0, .int a0, .int a1, .long a2]) ++ List.replicate (7 - (lg_sl ([.ref h0, .int a0, .int a1, .long a2])).length) Slot.unset).toArray = ls at hl ⊢
  have hl : lv_has ls 7 [(0, .ref h0), (1, .int a0), (2, .int a1), (3, .long a2)] := hl
  refine lv_lload_n hx hb dX0_userBitFits_0 rfl (lv_at hl 3 rfl) ?_
  refine lv_ldc2 hx hb hown (hts (.constantLong RX0 146 16) (by decide +kernel)) dX0_userBitFits_1 ?_
  refine lv_land hx hb dX0_userBitFits_4 ?_
  refine lv_lconst (v := 0) hx hb dX0_userBitFits_5 (by decide) ?_
  refine lj_i (j := 15) (z0 := if (a2 &&& 16) = 0 then 0 else 1) (rest := []) hP hS (fun H locs hP hS z_1 ez_1 => ?_) (fun J15_7 => ?_)
  · skip
    have oz_1 : z_1 = 0 ∨ z_1 = 1 := by rw [ez_1]; exact ite01 (Or.inl rfl) (Or.inr rfl)
    refine lv_istore (lv' := [(5, .int z_1), (0, .ref h0), (1, .int a0), (2, .int a1), (3, .long a2)]) hx hb dX0_userBitFits_15 hl (by decide) rfl (fun ls hl => ?_)
    refine lv_iload_n hx hb dX0_userBitFits_17 rfl (lv_at hl 2 rfl) ?_
    refine lv_if_eq (tgt := 26) hx hb dX0_userBitFits_18 (by decide) (fun c_18 => ?_) (fun c_18 => ?_)
    · skip
      refine lv_iload hx hb dX0_userBitFits_26 (lv_at hl 0 rfl) ?_
      exact W.zret (v := z_1) (ty := .boolean) hx hb hr (nb_z oz_1) (fun t ht hW => ⟨⟨_, (), rfl, by subst ez_1; first | (rw [fx_userBitFits, if_pos c_18]; done) | (simp only [fx_userBitFits, if_pos c_18]; done) | (rw [fx_userBitFits, if_pos c_18] <;> rfl), by rw [ht]; exact hP, va_K.moved hW.alike hK, hD⟩, hS.F ht⟩) hS.2.2 dX0_userBitFits_28
    · skip
      refine lv_iload_n hx hb dX0_userBitFits_21 rfl (lv_at hl 2 rfl) ?_
      refine lv_iconst (v := 2) hx hb dX0_userBitFits_22 (by decide) ?_
      refine lv_icmp_ne (tgt := 29) hx hb dX0_userBitFits_23 (by decide) (fun c_23 => ?_) (fun c_23 => ?_)
      · skip
        refine lv_iload_n hx hb dX0_userBitFits_29 rfl (lv_at hl 2 rfl) ?_
        refine cs_i (va_runS (As := [.int a0]) (rest := []) ⟨hx, hb, hml, hown, hts⟩ (ctx_isVirtual l H.size a0) (va_cwS 1 hts gX0_userBitFits_X0_isVirtual rfl rfl rfl (by decide +kernel) ⟨Nat.le_of_ble_eq_true rfl, Nat.le_of_ble_eq_true rfl⟩) ⟨fun a U g mk q => q, fun U hU hW => ⟨rfl, congrArg Array.size hU⟩⟩ rfl rfl hl.1 rfl (lv_room (Nat.le_of_ble_eq_true rfl)) dX0_userBitFits_30 ⟨Nat.zero_le _, Nat.zero_le _⟩) hA hP hS (fun H locs hP hS => ?_)
        refine lj_i (j := 41) (z0 := if ((fx_isVirtual a0)) = 0 then 1 else 4) (rest := []) hP hS (fun H locs hP hS z_2 ez_2 => ?_) (fun J41_33 => ?_)
        · skip
          refine lv_istore (lv' := [(6, .int z_2), (5, .int z_1), (0, .ref h0), (1, .int a0), (2, .int a1), (3, .long a2)]) hx hb dX0_userBitFits_41 hl (by decide) rfl (fun ls hl => ?_)
          refine lv_iload hx hb dX0_userBitFits_43 (lv_at hl 1 rfl) ?_
          refine lv_if_eq (tgt := 62) hx hb dX0_userBitFits_45 (by decide) (fun c_45 => ?_) (fun c_45 => ?_)
          · skip
            refine lv_iconst (v := 1) hx hb dX0_userBitFits_62 (by decide) ?_
            refine lv_goto (tgt := 67) hx hb dX0_userBitFits_63 (by decide) ?_
            exact W.zret (v := 1) (ty := .boolean) hx hb hr nb_1 (fun t ht hW => ⟨⟨_, (), rfl, by subst ez_2; subst ez_1; first | (rw [fx_userBitFits, if_neg c_18, if_neg c_23, if_pos c_45]; done) | (simp only [fx_userBitFits, if_neg c_18, if_neg c_23, if_pos c_45]; done) | (rw [fx_userBitFits, if_neg c_18, if_neg c_23, if_pos c_45] <;> rfl), by rw [ht]; exact hP, va_K.moved hW.alike hK, hD⟩, hS.F ht⟩) hS.2.2 dX0_userBitFits_67
          · skip
            refine lv_iload_n hx hb dX0_userBitFits_48 rfl (lv_at hl 4 rfl) ?_
            refine lv_if_eq (tgt := 66) hx hb dX0_userBitFits_49 (by decide) (fun c_49 => ?_) (fun c_49 => ?_)
            · skip
              refine lv_iconst (v := 0) hx hb dX0_userBitFits_66 (by decide) ?_
              exact W.zret (v := 0) (ty := .boolean) hx hb hr nb_0 (fun t ht hW => ⟨⟨_, (), rfl, by subst ez_2; subst ez_1; first | (rw [fx_userBitFits, if_neg c_18, if_neg c_23, if_neg c_45, if_pos c_49]; done) | (simp only [fx_userBitFits, if_neg c_18, if_neg c_23, if_neg c_45, if_pos c_49]; done) | (rw [fx_userBitFits, if_neg c_18, if_neg c_23, if_neg c_45, if_pos c_49] <;> rfl), by rw [ht]; exact hP, va_K.moved hW.alike hK, hD⟩, hS.F ht⟩) hS.2.2 dX0_userBitFits_67
            · skip
              refine lv_aload_n hx hb dX0_userBitFits_52 rfl (lv_at hl 2 rfl) ?_
              refine va_get (D := (dC, dI)) (ci := 0) (v := .int v_rights) (C := RX0) (T := TX0) (N := 10) hx hb hts hwX hown hK hP 0 rfl rfl 4 (by decide) (hts (.fieldLink RX0 33 "StageWalker" "rights" "I") (by decide +kernel)) (fun _ h9 => h9) rfl dX0_userBitFits_53 ?_
              refine lv_iload hx hb dX0_userBitFits_56 (lv_at hl 0 rfl) ?_
              refine lv_iand hx hb dX0_userBitFits_58 ?_
              refine lv_if_eq (tgt := 66) hx hb dX0_userBitFits_59 (by decide) (fun c_59 => ?_) (fun c_59 => ?_)
              · skip
                refine lv_iconst (v := 0) hx hb dX0_userBitFits_66 (by decide) ?_
                exact W.zret (v := 0) (ty := .boolean) hx hb hr nb_0 (fun t ht hW => ⟨⟨_, (), rfl, by subst ez_2; subst ez_1; first | (rw [fx_userBitFits, if_neg c_18, if_neg c_23, if_neg c_45, if_neg c_49, if_pos c_59]; done) | (simp only [fx_userBitFits, if_neg c_18, if_neg c_23, if_neg c_45, if_neg c_49, if_pos c_59]; done) | (rw [fx_userBitFits, if_neg c_18, if_neg c_23, if_neg c_45, if_neg c_49, if_pos c_59] <;> rfl), by rw [ht]; exact hP, va_K.moved hW.alike hK, hD⟩, hS.F ht⟩) hS.2.2 dX0_userBitFits_67
              · skip
                refine lv_iconst (v := 1) hx hb dX0_userBitFits_62 (by decide) ?_
                refine lv_goto (tgt := 67) hx hb dX0_userBitFits_63 (by decide) ?_
                exact W.zret (v := 1) (ty := .boolean) hx hb hr nb_1 (fun t ht hW => ⟨⟨_, (), rfl, by subst ez_2; subst ez_1; first | (rw [fx_userBitFits, if_neg c_18, if_neg c_23, if_neg c_45, if_neg c_49, if_neg c_59]; done) | (simp only [fx_userBitFits, if_neg c_18, if_neg c_23, if_neg c_45, if_neg c_49, if_neg c_59]; done) | (rw [fx_userBitFits, if_neg c_18, if_neg c_23, if_neg c_45, if_neg c_49, if_neg c_59] <;> rfl), by rw [ht]; exact hP, va_K.moved hW.alike hK, hD⟩, hS.F ht⟩) hS.2.2 dX0_userBitFits_67
        · skip
          refine lv_if_eq (tgt := 40) hx hb dX0_userBitFits_33 (by decide) (fun c_33 => ?_) (fun c_33 => ?_)
          · skip
            refine lv_iconst (v := 1) hx hb dX0_userBitFits_40 (by decide) ?_
            exact W.eq (by rw [if_pos c_33] <;> rfl) (J41_33 _ _ hP hS)
          · skip
            refine lv_iconst (v := 4) hx hb dX0_userBitFits_36 (by decide) ?_
            refine lv_goto (tgt := 41) hx hb dX0_userBitFits_37 (by decide) ?_
            exact W.eq (by rw [if_neg c_33] <;> rfl) (J41_33 _ _ hP hS)
      · skip
        refine lv_iload hx hb dX0_userBitFits_26 (lv_at hl 0 rfl) ?_
        exact W.zret (v := z_1) (ty := .boolean) hx hb hr (nb_z oz_1) (fun t ht hW => ⟨⟨_, (), rfl, by subst ez_1; first | (rw [fx_userBitFits, if_neg c_18, if_pos c_23]; done) | (simp only [fx_userBitFits, if_neg c_18, if_pos c_23]; done) | (rw [fx_userBitFits, if_neg c_18, if_pos c_23] <;> rfl), by rw [ht]; exact hP, va_K.moved hW.alike hK, hD⟩, hS.F ht⟩) hS.2.2 dX0_userBitFits_28
  · skip
    refine lq_eq (tgt := 14) hx hb dX0_userBitFits_6 dX0_userBitFits_7 (by decide) (fun c_7 => ?_) (fun c_7 => ?_)
    · skip
      refine lv_iconst (v := 0) hx hb dX0_userBitFits_14 (by decide) ?_
      exact W.eq (by rw [if_pos c_7] <;> rfl) (J15_7 _ _ hP hS)
    · skip
      refine lv_iconst (v := 1) hx hb dX0_userBitFits_10 (by decide) ?_
      refine lv_goto (tgt := 15) hx hb dX0_userBitFits_11 (by decide) ?_
      exact W.eq (by rw [if_neg c_7] <;> rfl) (J15_7 _ _ hP hS)
def fx_firstAllows (v_rights : Int32) (a0 : Int32) (a1 : Int32) (a2 : Int64) : Int32 := if ((fx_userBitFits v_rights a0 a1 a2)) = 0 then 0 else if ((fx_grants a1 a2 ((if (v_rights &&& ((if ((fx_isVirtual a0)) = 0 then 2 else 10 : Int32))) = 0 then 0 else 1 : Int32)))) = 0 then 0 else 1
set_option maxHeartbeats 4000000 in
set_option maxRecDepth 100000 in
theorem ctx_firstAllows (l : Launch) (dC : Nat → ClassId) (dI : Nat → Nat → Nat) (h0 : Nat) (q_words : Nat) (k_words : ClassId) (sz : Nat) (v_atp : Int32) (v_vsAtp : Int32) (v_hgatp : Int32) (v_rights : Int32) (v_latestPlace : Int32) (v_latestSecond : Int32) (v_latestEntry : Int32) (v_refusedAddress : Int64) (v_refusedEntry : Int32) (m_words : Nat → Int32) (a0 : Int32) (a1 : Int32) (a2 : Int64) : MRi l yX0_firstAllows wsX0_firstAllows ({ frames := 2, cells := 0, slots := 0, locals := 46 }) (dC, dI) vwCl [(k_words, .int)] [.ref h0, .int a0, .int a1, .long a2] sz (wx h0 q_words k_words v_atp v_vsAtp v_hgatp v_rights v_latestPlace v_latestSecond v_latestEntry v_refusedAddress v_refusedEntry m_words) (fx_firstAllows v_rights a0 a1 a2) := by
  refine Met.ofW (cc := cX0_firstAllows) (maxL := 6) (ret := (some .boolean)) (by decide) rfl ?_
  intro p e s m args below meth c s₁ B hml hv
  obtain ⟨rfl, hsz, hP, hK, hD0⟩ := hv
  have hx := B.exec
  have hb := B.bytes
  have hr := B.returns
  have hts := atoms_spec (ws := wsX0_firstAllows) B.pre
  have hown : s.vm.findClass RX0 = some m.cls := findClass_of_methodNamed B.named
  have hlocks := B.notSynchronized
  subst hsz
  have hwX : ∀ w ∈ u_ws RX0 TX0 10, w ∈ wsX0_firstAllows := by decide +kernel
  have hD := hD0.self (sz := s.heap.size)
  generalize hAe : va_A (wx h0 q_words k_words v_atp v_vsAtp v_hgatp v_rights v_latestPlace v_latestSecond v_latestEntry v_refusedAddress v_refusedEntry m_words) s.heap.size = A at hD ⊢
  have hA : ∀ q : Nat, s.heap.size ≤ q → A q := fun q h => by rw [← hAe]; exact Or.inr h
  have hS : va_S A s.heap s.heap [] := va_S.rf
  have hP : va_P (dC, dI) vwCl (wx h0 q_words k_words v_atp v_vsAtp v_hgatp v_rights v_latestPlace v_latestSecond v_latestEntry v_refusedAddress v_refusedEntry m_words) s.heap := hP
  have hl := lv_entry ([.ref h0, .int a0, .int a1, .long a2]) (n := 6) (Nat.le_of_ble_eq_true rfl)
  rw [lg_entry_eq]
  generalize (lg_sl ([.ref h0, .int a0, .int a1, .long a2]) ++ List.replicate (6 - (lg_sl ([.ref h0, .int a0, .int a1, .long a2])).length) Slot.unset).toArray = ls at hl ⊢
  have hl : lv_has ls 6 [(0, .ref h0), (1, .int a0), (2, .int a1), (3, .long a2)] := hl
  refine lv_iload_n hx hb dX0_firstAllows_0 rfl (lv_at hl 1 rfl) ?_
  refine cs_i (va_runS (As := [.int a0]) (rest := []) ⟨hx, hb, hml, hown, hts⟩ (ctx_isVirtual l s.heap.size a0) (va_cwS 1 hts gX0_firstAllows_X0_isVirtual rfl rfl rfl (by decide +kernel) ⟨Nat.le_of_ble_eq_true rfl, Nat.le_of_ble_eq_true rfl⟩) ⟨fun a U g mk q => q, fun U hU hW => ⟨rfl, congrArg Array.size hU⟩⟩ rfl rfl hl.1 rfl (lv_room (Nat.le_of_ble_eq_true rfl)) dX0_firstAllows_1 ⟨Nat.zero_le _, Nat.zero_le _⟩) hA hP hS (fun H locs hP hS => ?_)
  refine lj_i (j := 13) (z0 := if ((fx_isVirtual a0)) = 0 then 2 else 10) (rest := []) hP hS (fun H locs hP hS z_1 ez_1 => ?_) (fun J13_4 => ?_)
  · skip
    refine lv_istore (lv' := [(5, .int z_1), (0, .ref h0), (1, .int a0), (2, .int a1), (3, .long a2)]) hx hb dX0_firstAllows_13 hl (by decide) rfl (fun ls hl => ?_)
    refine lv_aload_n hx hb dX0_firstAllows_15 rfl (lv_at hl 1 rfl) ?_
    refine lv_iload_n hx hb dX0_firstAllows_16 rfl (lv_at hl 2 rfl) ?_
    refine lv_iload_n hx hb dX0_firstAllows_17 rfl (lv_at hl 3 rfl) ?_
    refine lv_lload_n hx hb dX0_firstAllows_18 rfl (lv_at hl 4 rfl) ?_
    refine cr_i (va_runV (As := [.int a0, .int a1, .long a2]) (rest := []) ⟨hx, hb, hml, hown, hts⟩ (ctx_userBitFits l dC dI h0 q_words k_words H.size v_atp v_vsAtp v_hgatp v_rights v_latestPlace v_latestSecond v_latestEntry v_refusedAddress v_refusedEntry m_words a0 a1 a2) (cwV 3 hts gX0_firstAllows_X0_userBitFits rfl rfl rfl (by decide +kernel) ⟨Nat.le_of_ble_eq_true rfl, Nat.le_of_ble_eq_true rfl⟩) ⟨fun a U g mk q => ⟨q.1, q.2.1, q.2.2.1, va_K.moved (u := U) (U := U.calling g mk a) (Vm.Alike.refl U.vm) q.2.2.2.1, q.2.2.2.2⟩, va_recv hK hP (ci := 0) (q0 := 0) rfl rfl, fun U hU hW => ⟨rfl, by rw [hU], by rw [hU]; exact hP, va_K.moved hW.alike hK, hD.weaken (fun _ _ _ _ => trivial)⟩⟩ rfl rfl hl.1 rfl (lv_room (Nat.le_of_ble_eq_true rfl)) dX0_firstAllows_19 ⟨Nat.zero_le _, Nat.zero_le _⟩) hA hD hP hS (fun H locs hP hS => ?_)
    refine lv_if_eq (tgt := 52) hx hb dX0_firstAllows_22 (by decide) (fun c_22 => ?_) (fun c_22 => ?_)
    · skip
      refine lv_iconst (v := 0) hx hb dX0_firstAllows_52 (by decide) ?_
      exact W.zret (v := 0) (ty := .boolean) hx hb hr nb_0 (fun t ht hW => ⟨⟨_, (), rfl, by subst ez_1; first | (rw [fx_firstAllows, if_pos c_22]; done) | (simp only [fx_firstAllows, if_pos c_22]; done) | (rw [fx_firstAllows, if_pos c_22] <;> rfl), by rw [ht]; exact hP, va_K.moved hW.alike hK, hD⟩, hS.F ht⟩) hS.2.2 dX0_firstAllows_53
    · skip
      refine lv_iload_n hx hb dX0_firstAllows_25 rfl (lv_at hl 3 rfl) ?_
      refine lv_lload_n hx hb dX0_firstAllows_26 rfl (lv_at hl 4 rfl) ?_
      refine lv_aload_n hx hb dX0_firstAllows_27 rfl (lv_at hl 1 rfl) ?_
      refine va_get (D := (dC, dI)) (ci := 0) (v := .int v_rights) (C := RX0) (T := TX0) (N := 10) hx hb hts hwX hown hK hP 0 rfl rfl 4 (by decide) (hts (.fieldLink RX0 33 "StageWalker" "rights" "I") (by decide +kernel)) (fun _ h9 => h9) rfl dX0_firstAllows_28 ?_
      refine lv_iload hx hb dX0_firstAllows_31 (lv_at hl 0 rfl) ?_
      refine lv_iand hx hb dX0_firstAllows_33 ?_
      refine lj_i (j := 42) (z0 := if (v_rights &&& z_1) = 0 then 0 else 1) (rest := [.long a2, .int a1]) hP hS (fun H locs hP hS z_2 ez_2 => ?_) (fun J42_34 => ?_)
      · skip
        have oz_2 : z_2 = 0 ∨ z_2 = 1 := by rw [ez_2]; exact ite01 (Or.inl rfl) (Or.inr rfl)
        refine cs_i (va_runS (As := [.int a1, .long a2, .int z_2]) (rest := []) ⟨hx, hb, hml, hown, hts⟩ (ctx_grants l H.size a1 a2 z_2) (va_cwS 3 hts gX0_firstAllows_X0_grants rfl rfl rfl (by decide +kernel) ⟨Nat.le_of_ble_eq_true rfl, Nat.le_of_ble_eq_true rfl⟩) ⟨fun a U g mk q => q, fun U hU hW => ⟨rfl, congrArg Array.size hU⟩⟩ rfl rfl hl.1 rfl (lv_room (Nat.le_of_ble_eq_true rfl)) dX0_firstAllows_42 ⟨Nat.zero_le _, Nat.zero_le _⟩) hA hP hS (fun H locs hP hS => ?_)
        refine lv_if_eq (tgt := 52) hx hb dX0_firstAllows_45 (by decide) (fun c_45 => ?_) (fun c_45 => ?_)
        · skip
          refine lv_iconst (v := 0) hx hb dX0_firstAllows_52 (by decide) ?_
          exact W.zret (v := 0) (ty := .boolean) hx hb hr nb_0 (fun t ht hW => ⟨⟨_, (), rfl, by subst ez_2; subst ez_1; first | (rw [fx_firstAllows, if_neg c_22, if_pos c_45]; done) | (simp only [fx_firstAllows, if_neg c_22, if_pos c_45]; done) | (rw [fx_firstAllows, if_neg c_22, if_pos c_45] <;> rfl), by rw [ht]; exact hP, va_K.moved hW.alike hK, hD⟩, hS.F ht⟩) hS.2.2 dX0_firstAllows_53
        · skip
          refine lv_iconst (v := 1) hx hb dX0_firstAllows_48 (by decide) ?_
          refine lv_goto (tgt := 53) hx hb dX0_firstAllows_49 (by decide) ?_
          exact W.zret (v := 1) (ty := .boolean) hx hb hr nb_1 (fun t ht hW => ⟨⟨_, (), rfl, by subst ez_2; subst ez_1; first | (rw [fx_firstAllows, if_neg c_22, if_neg c_45]; done) | (simp only [fx_firstAllows, if_neg c_22, if_neg c_45]; done) | (rw [fx_firstAllows, if_neg c_22, if_neg c_45] <;> rfl), by rw [ht]; exact hP, va_K.moved hW.alike hK, hD⟩, hS.F ht⟩) hS.2.2 dX0_firstAllows_53
      · skip
        refine lv_if_eq (tgt := 41) hx hb dX0_firstAllows_34 (by decide) (fun c_34 => ?_) (fun c_34 => ?_)
        · skip
          refine lv_iconst (v := 0) hx hb dX0_firstAllows_41 (by decide) ?_
          exact W.eq (by rw [if_pos c_34] <;> rfl) (J42_34 _ _ hP hS)
        · skip
          refine lv_iconst (v := 1) hx hb dX0_firstAllows_37 (by decide) ?_
          refine lv_goto (tgt := 42) hx hb dX0_firstAllows_38 (by decide) ?_
          exact W.eq (by rw [if_neg c_34] <;> rfl) (J42_34 _ _ hP hS)
  · skip
    refine lv_if_eq (tgt := 12) hx hb dX0_firstAllows_4 (by decide) (fun c_4 => ?_) (fun c_4 => ?_)
    · skip
      refine lv_iconst (v := 2) hx hb dX0_firstAllows_12 (by decide) ?_
      exact W.eq (by rw [if_pos c_4] <;> rfl) (J13_4 _ _ hP hS)
    · skip
      refine lv_bipush (v := 10) hx hb dX0_firstAllows_7 (by decide) ?_
      refine lv_goto (tgt := 13) hx hb dX0_firstAllows_9 (by decide) ?_
      exact W.eq (by rw [if_neg c_4] <;> rfl) (J13_4 _ _ hP hS)
def fx_secondAllows (v_rights : Int32) (a0 : Int32) (a1 : Int64) (a2 : Int32) : Int32 := if (a1 &&& 16) = 0 then 0 else if ((fx_grants ((if a2 = 0 then a0 else 1 : Int32)) a1 ((if a2 = 0 then if (v_rights &&& 2) = 0 then 0 else 1 else 0 : Int32)))) = 0 then 0 else 1
set_option maxHeartbeats 4000000 in
set_option maxRecDepth 100000 in
theorem ctx_secondAllows (l : Launch) (dC : Nat → ClassId) (dI : Nat → Nat → Nat) (h0 : Nat) (q_words : Nat) (k_words : ClassId) (sz : Nat) (v_atp : Int32) (v_vsAtp : Int32) (v_hgatp : Int32) (v_rights : Int32) (v_latestPlace : Int32) (v_latestSecond : Int32) (v_latestEntry : Int32) (v_refusedAddress : Int64) (v_refusedEntry : Int32) (m_words : Nat → Int32) (a0 : Int32) (a1 : Int64) (a2 : Int32) : MRi l yX0_secondAllows wsX0_secondAllows ({ frames := 1, cells := 0, slots := 0, locals := 23 }) (dC, dI) vwCl [(k_words, .int)] [.ref h0, .int a0, .long a1, .int a2] sz (wx h0 q_words k_words v_atp v_vsAtp v_hgatp v_rights v_latestPlace v_latestSecond v_latestEntry v_refusedAddress v_refusedEntry m_words) (fx_secondAllows v_rights a0 a1 a2) := by
  refine Met.ofW (cc := cX0_secondAllows) (maxL := 6) (ret := (some .boolean)) (by decide) rfl ?_
  intro p e s m args below meth c s₁ B hml hv
  obtain ⟨rfl, hsz, hP, hK, hD0⟩ := hv
  have hx := B.exec
  have hb := B.bytes
  have hr := B.returns
  have hts := atoms_spec (ws := wsX0_secondAllows) B.pre
  have hown : s.vm.findClass RX0 = some m.cls := findClass_of_methodNamed B.named
  have hlocks := B.notSynchronized
  subst hsz
  have hwX : ∀ w ∈ u_ws RX0 TX0 10, w ∈ wsX0_secondAllows := by decide +kernel
  have hD := hD0.self (sz := s.heap.size)
  generalize hAe : va_A (wx h0 q_words k_words v_atp v_vsAtp v_hgatp v_rights v_latestPlace v_latestSecond v_latestEntry v_refusedAddress v_refusedEntry m_words) s.heap.size = A at hD ⊢
  have hA : ∀ q : Nat, s.heap.size ≤ q → A q := fun q h => by rw [← hAe]; exact Or.inr h
  have hS : va_S A s.heap s.heap [] := va_S.rf
  have hP : va_P (dC, dI) vwCl (wx h0 q_words k_words v_atp v_vsAtp v_hgatp v_rights v_latestPlace v_latestSecond v_latestEntry v_refusedAddress v_refusedEntry m_words) s.heap := hP
  have hl := lv_entry ([.ref h0, .int a0, .long a1, .int a2]) (n := 6) (Nat.le_of_ble_eq_true rfl)
  rw [lg_entry_eq]
  generalize (lg_sl ([.ref h0, .int a0, .long a1, .int a2]) ++ List.replicate (6 - (lg_sl ([.ref h0, .int a0, .long a1, .int a2])).length) Slot.unset).toArray = ls at hl ⊢
  have hl : lv_has ls 6 [(0, .ref h0), (1, .int a0), (2, .long a1), (4, .int a2)] := hl
  refine lv_iload hx hb dX0_secondAllows_0 (lv_at hl 3 rfl) ?_
  refine lj_i (j := 19) (z0 := if a2 = 0 then if (v_rights &&& 2) = 0 then 0 else 1 else 0) (rest := []) hP hS (fun H locs hP hS z_1 ez_1 => ?_) (fun J19_2 => ?_)
  · skip
    have oz_1 : z_1 = 0 ∨ z_1 = 1 := by rw [ez_1]; exact ite01 (ite01 (Or.inl rfl) (Or.inr rfl)) (Or.inl rfl)
    refine lv_istore (lv' := [(5, .int z_1), (0, .ref h0), (1, .int a0), (2, .long a1), (4, .int a2)]) hx hb dX0_secondAllows_19 hl (by decide) rfl (fun ls hl => ?_)
    refine lv_lload_n hx hb dX0_secondAllows_21 rfl (lv_at hl 3 rfl) ?_
    refine lv_ldc2 hx hb hown (hts (.constantLong RX0 146 16) (by decide +kernel)) dX0_secondAllows_22 ?_
    refine lv_land hx hb dX0_secondAllows_25 ?_
    refine lv_lconst (v := 0) hx hb dX0_secondAllows_26 (by decide) ?_
    refine lq_eq (tgt := 54) hx hb dX0_secondAllows_27 dX0_secondAllows_28 (by decide) (fun c_28 => ?_) (fun c_28 => ?_)
    · skip
      refine lv_iconst (v := 0) hx hb dX0_secondAllows_54 (by decide) ?_
      exact W.zret (v := 0) (ty := .boolean) hx hb hr nb_0 (fun t ht hW => ⟨⟨_, (), rfl, by subst ez_1; first | (rw [fx_secondAllows, if_pos c_28]; done) | (simp only [fx_secondAllows, if_pos c_28]; done) | (rw [fx_secondAllows, if_pos c_28] <;> rfl), by rw [ht]; exact hP, va_K.moved hW.alike hK, hD⟩, hS.F ht⟩) hS.2.2 dX0_secondAllows_55
    · skip
      refine lv_iload hx hb dX0_secondAllows_31 (lv_at hl 4 rfl) ?_
      refine lj_i (j := 41) (z0 := if a2 = 0 then a0 else 1) (rest := []) hP hS (fun H locs hP hS z_2 ez_2 => ?_) (fun J41_33 => ?_)
      · skip
        refine lv_lload_n hx hb dX0_secondAllows_41 rfl (lv_at hl 3 rfl) ?_
        refine lv_iload hx hb dX0_secondAllows_42 (lv_at hl 0 rfl) ?_
        refine cs_i (va_runS (As := [.int z_2, .long a1, .int z_1]) (rest := []) ⟨hx, hb, hml, hown, hts⟩ (ctx_grants l H.size z_2 a1 z_1) (va_cwS 3 hts gX0_secondAllows_X0_grants rfl rfl rfl (by decide +kernel) ⟨Nat.le_of_ble_eq_true rfl, Nat.le_of_ble_eq_true rfl⟩) ⟨fun a U g mk q => q, fun U hU hW => ⟨rfl, congrArg Array.size hU⟩⟩ rfl rfl hl.1 rfl (lv_room (Nat.le_of_ble_eq_true rfl)) dX0_secondAllows_44 ⟨Nat.zero_le _, Nat.zero_le _⟩) hA hP hS (fun H locs hP hS => ?_)
        refine lv_if_eq (tgt := 54) hx hb dX0_secondAllows_47 (by decide) (fun c_47 => ?_) (fun c_47 => ?_)
        · skip
          refine lv_iconst (v := 0) hx hb dX0_secondAllows_54 (by decide) ?_
          exact W.zret (v := 0) (ty := .boolean) hx hb hr nb_0 (fun t ht hW => ⟨⟨_, (), rfl, by subst ez_2; subst ez_1; first | (rw [fx_secondAllows, if_neg c_28, if_pos c_47]; done) | (simp only [fx_secondAllows, if_neg c_28, if_pos c_47]; done) | (rw [fx_secondAllows, if_neg c_28, if_pos c_47] <;> rfl), by rw [ht]; exact hP, va_K.moved hW.alike hK, hD⟩, hS.F ht⟩) hS.2.2 dX0_secondAllows_55
        · skip
          refine lv_iconst (v := 1) hx hb dX0_secondAllows_50 (by decide) ?_
          refine lv_goto (tgt := 55) hx hb dX0_secondAllows_51 (by decide) ?_
          exact W.zret (v := 1) (ty := .boolean) hx hb hr nb_1 (fun t ht hW => ⟨⟨_, (), rfl, by subst ez_2; subst ez_1; first | (rw [fx_secondAllows, if_neg c_28, if_neg c_47]; done) | (simp only [fx_secondAllows, if_neg c_28, if_neg c_47]; done) | (rw [fx_secondAllows, if_neg c_28, if_neg c_47] <;> rfl), by rw [ht]; exact hP, va_K.moved hW.alike hK, hD⟩, hS.F ht⟩) hS.2.2 dX0_secondAllows_55
      · skip
        refine lv_if_eq (tgt := 40) hx hb dX0_secondAllows_33 (by decide) (fun c_33 => ?_) (fun c_33 => ?_)
        · skip
          refine lv_iload_n hx hb dX0_secondAllows_40 rfl (lv_at hl 2 rfl) ?_
          exact W.eq (by rw [if_pos c_33] <;> rfl) (J41_33 _ _ hP hS)
        · skip
          refine lv_iconst (v := 1) hx hb dX0_secondAllows_36 (by decide) ?_
          refine lv_goto (tgt := 41) hx hb dX0_secondAllows_37 (by decide) ?_
          exact W.eq (by rw [if_neg c_33] <;> rfl) (J41_33 _ _ hP hS)
  · skip
    refine lv_if_ne (tgt := 18) hx hb dX0_secondAllows_2 (by decide) (fun c_2 => ?_) (fun c_2 => ?_)
    · skip
      refine lv_iconst (v := 0) hx hb dX0_secondAllows_18 (by decide) ?_
      exact W.eq (by rw [if_neg c_2] <;> rfl) (J19_2 _ _ hP hS)
    · skip
      refine lv_aload_n hx hb dX0_secondAllows_5 rfl (lv_at hl 0 rfl) ?_
      refine va_get (D := (dC, dI)) (ci := 0) (v := .int v_rights) (C := RX0) (T := TX0) (N := 10) hx hb hts hwX hown hK hP 0 rfl rfl 4 (by decide) (hts (.fieldLink RX0 33 "StageWalker" "rights" "I") (by decide +kernel)) (fun _ h9 => h9) rfl dX0_secondAllows_6 ?_
      refine lv_iconst (v := 2) hx hb dX0_secondAllows_9 (by decide) ?_
      refine lv_iand hx hb dX0_secondAllows_10 ?_
      refine lv_if_eq (tgt := 18) hx hb dX0_secondAllows_11 (by decide) (fun c_11 => ?_) (fun c_11 => ?_)
      · skip
        refine lv_iconst (v := 0) hx hb dX0_secondAllows_18 (by decide) ?_
        exact W.eq (by rw [if_pos c_2, if_pos c_11] <;> rfl) (J19_2 _ _ hP hS)
      · skip
        refine lv_iconst (v := 1) hx hb dX0_secondAllows_14 (by decide) ?_
        refine lv_goto (tgt := 19) hx hb dX0_secondAllows_15 (by decide) ?_
        exact W.eq (by rw [if_pos c_2, if_neg c_11] <;> rfl) (J19_2 _ _ hP hS)
def fx_place (v_latestPlace : Int32) : Int32 := v_latestPlace
set_option maxHeartbeats 4000000 in
set_option maxRecDepth 100000 in
theorem ctx_place (l : Launch) (dC : Nat → ClassId) (dI : Nat → Nat → Nat) (h0 : Nat) (q_words : Nat) (k_words : ClassId) (sz : Nat) (v_atp : Int32) (v_vsAtp : Int32) (v_hgatp : Int32) (v_rights : Int32) (v_latestPlace : Int32) (v_latestSecond : Int32) (v_latestEntry : Int32) (v_refusedAddress : Int64) (v_refusedEntry : Int32) (m_words : Nat → Int32) : MRi l yX0_place wsX0_place ({ frames := 0, cells := 0, slots := 0, locals := 0 }) (dC, dI) vwCl [(k_words, .int)] [.ref h0] sz (wx h0 q_words k_words v_atp v_vsAtp v_hgatp v_rights v_latestPlace v_latestSecond v_latestEntry v_refusedAddress v_refusedEntry m_words) (fx_place v_latestPlace) := by
  refine Met.ofW (cc := cX0_place) (maxL := 1) (ret := (some .int)) (by decide) rfl ?_
  intro p e s m args below meth c s₁ B hml hv
  obtain ⟨rfl, hsz, hP, hK, hD0⟩ := hv
  have hx := B.exec
  have hb := B.bytes
  have hr := B.returns
  have hts := atoms_spec (ws := wsX0_place) B.pre
  have hown : s.vm.findClass RX0 = some m.cls := findClass_of_methodNamed B.named
  have hlocks := B.notSynchronized
  subst hsz
  have hwX : ∀ w ∈ u_ws RX0 TX0 10, w ∈ wsX0_place := by decide +kernel
  have hD := hD0.self (sz := s.heap.size)
  generalize hAe : va_A (wx h0 q_words k_words v_atp v_vsAtp v_hgatp v_rights v_latestPlace v_latestSecond v_latestEntry v_refusedAddress v_refusedEntry m_words) s.heap.size = A at hD ⊢
  have hA : ∀ q : Nat, s.heap.size ≤ q → A q := fun q h => by rw [← hAe]; exact Or.inr h
  have hS : va_S A s.heap s.heap [] := va_S.rf
  have hP : va_P (dC, dI) vwCl (wx h0 q_words k_words v_atp v_vsAtp v_hgatp v_rights v_latestPlace v_latestSecond v_latestEntry v_refusedAddress v_refusedEntry m_words) s.heap := hP
  have hl := lv_entry ([.ref h0]) (n := 1) (Nat.le_of_ble_eq_true rfl)
  rw [lg_entry_eq]
  generalize (lg_sl ([.ref h0]) ++ List.replicate (1 - (lg_sl ([.ref h0])).length) Slot.unset).toArray = ls at hl ⊢
  have hl : lv_has ls 1 [(0, .ref h0)] := hl
  refine lv_aload_n hx hb dX0_place_0 rfl (lv_at hl 0 rfl) ?_
  refine va_get (D := (dC, dI)) (ci := 0) (v := .int v_latestPlace) (C := RX0) (T := TX0) (N := 10) hx hb hts hwX hown hK hP 0 rfl rfl 5 (by decide) (hts (.fieldLink RX0 14 "StageWalker" "latestPlace" "I") (by decide +kernel)) (fun _ h9 => h9) rfl dX0_place_1 ?_
  exact W.iret (v := v_latestPlace) hx hb hr (fun t ht hW => ⟨⟨_, (), rfl, by rfl, by rw [ht]; exact hP, va_K.moved hW.alike hK, hD⟩, hS.F ht⟩) hS.2.2 dX0_place_4
def fx_second (v_latestSecond : Int32) : Int32 := v_latestSecond
set_option maxHeartbeats 4000000 in
set_option maxRecDepth 100000 in
theorem ctx_second (l : Launch) (dC : Nat → ClassId) (dI : Nat → Nat → Nat) (h0 : Nat) (q_words : Nat) (k_words : ClassId) (sz : Nat) (v_atp : Int32) (v_vsAtp : Int32) (v_hgatp : Int32) (v_rights : Int32) (v_latestPlace : Int32) (v_latestSecond : Int32) (v_latestEntry : Int32) (v_refusedAddress : Int64) (v_refusedEntry : Int32) (m_words : Nat → Int32) : MRi l yX0_second wsX0_second ({ frames := 0, cells := 0, slots := 0, locals := 0 }) (dC, dI) vwCl [(k_words, .int)] [.ref h0] sz (wx h0 q_words k_words v_atp v_vsAtp v_hgatp v_rights v_latestPlace v_latestSecond v_latestEntry v_refusedAddress v_refusedEntry m_words) (fx_second v_latestSecond) := by
  refine Met.ofW (cc := cX0_second) (maxL := 1) (ret := (some .int)) (by decide) rfl ?_
  intro p e s m args below meth c s₁ B hml hv
  obtain ⟨rfl, hsz, hP, hK, hD0⟩ := hv
  have hx := B.exec
  have hb := B.bytes
  have hr := B.returns
  have hts := atoms_spec (ws := wsX0_second) B.pre
  have hown : s.vm.findClass RX0 = some m.cls := findClass_of_methodNamed B.named
  have hlocks := B.notSynchronized
  subst hsz
  have hwX : ∀ w ∈ u_ws RX0 TX0 10, w ∈ wsX0_second := by decide +kernel
  have hD := hD0.self (sz := s.heap.size)
  generalize hAe : va_A (wx h0 q_words k_words v_atp v_vsAtp v_hgatp v_rights v_latestPlace v_latestSecond v_latestEntry v_refusedAddress v_refusedEntry m_words) s.heap.size = A at hD ⊢
  have hA : ∀ q : Nat, s.heap.size ≤ q → A q := fun q h => by rw [← hAe]; exact Or.inr h
  have hS : va_S A s.heap s.heap [] := va_S.rf
  have hP : va_P (dC, dI) vwCl (wx h0 q_words k_words v_atp v_vsAtp v_hgatp v_rights v_latestPlace v_latestSecond v_latestEntry v_refusedAddress v_refusedEntry m_words) s.heap := hP
  have hl := lv_entry ([.ref h0]) (n := 1) (Nat.le_of_ble_eq_true rfl)
  rw [lg_entry_eq]
  generalize (lg_sl ([.ref h0]) ++ List.replicate (1 - (lg_sl ([.ref h0])).length) Slot.unset).toArray = ls at hl ⊢
  have hl : lv_has ls 1 [(0, .ref h0)] := hl
  refine lv_aload_n hx hb dX0_second_0 rfl (lv_at hl 0 rfl) ?_
  refine va_get (D := (dC, dI)) (ci := 0) (v := .int v_latestSecond) (C := RX0) (T := TX0) (N := 10) hx hb hts hwX hown hK hP 0 rfl rfl 6 (by decide) (hts (.fieldLink RX0 36 "StageWalker" "latestSecond" "I") (by decide +kernel)) (fun _ h9 => h9) rfl dX0_second_1 ?_
  exact W.iret (v := v_latestSecond) hx hb hr (fun t ht hW => ⟨⟨_, (), rfl, by rfl, by rw [ht]; exact hP, va_K.moved hW.alike hK, hD⟩, hS.F ht⟩) hS.2.2 dX0_second_4
def fx_entry (v_latestEntry : Int32) : Int32 := v_latestEntry
set_option maxHeartbeats 4000000 in
set_option maxRecDepth 100000 in
theorem ctx_entry (l : Launch) (dC : Nat → ClassId) (dI : Nat → Nat → Nat) (h0 : Nat) (q_words : Nat) (k_words : ClassId) (sz : Nat) (v_atp : Int32) (v_vsAtp : Int32) (v_hgatp : Int32) (v_rights : Int32) (v_latestPlace : Int32) (v_latestSecond : Int32) (v_latestEntry : Int32) (v_refusedAddress : Int64) (v_refusedEntry : Int32) (m_words : Nat → Int32) (hf_latestEntry : v_latestEntry = 0 ∨ v_latestEntry = 1) : MRi l yX0_entry wsX0_entry ({ frames := 0, cells := 0, slots := 0, locals := 0 }) (dC, dI) vwCl [(k_words, .int)] [.ref h0] sz (wx h0 q_words k_words v_atp v_vsAtp v_hgatp v_rights v_latestPlace v_latestSecond v_latestEntry v_refusedAddress v_refusedEntry m_words) (fx_entry v_latestEntry) := by
  refine Met.ofW (cc := cX0_entry) (maxL := 1) (ret := (some .boolean)) (by decide) rfl ?_
  intro p e s m args below meth c s₁ B hml hv
  obtain ⟨rfl, hsz, hP, hK, hD0⟩ := hv
  have hx := B.exec
  have hb := B.bytes
  have hr := B.returns
  have hts := atoms_spec (ws := wsX0_entry) B.pre
  have hown : s.vm.findClass RX0 = some m.cls := findClass_of_methodNamed B.named
  have hlocks := B.notSynchronized
  subst hsz
  have hwX : ∀ w ∈ u_ws RX0 TX0 10, w ∈ wsX0_entry := by decide +kernel
  have hD := hD0.self (sz := s.heap.size)
  generalize hAe : va_A (wx h0 q_words k_words v_atp v_vsAtp v_hgatp v_rights v_latestPlace v_latestSecond v_latestEntry v_refusedAddress v_refusedEntry m_words) s.heap.size = A at hD ⊢
  have hA : ∀ q : Nat, s.heap.size ≤ q → A q := fun q h => by rw [← hAe]; exact Or.inr h
  have hS : va_S A s.heap s.heap [] := va_S.rf
  have hP : va_P (dC, dI) vwCl (wx h0 q_words k_words v_atp v_vsAtp v_hgatp v_rights v_latestPlace v_latestSecond v_latestEntry v_refusedAddress v_refusedEntry m_words) s.heap := hP
  have hl := lv_entry ([.ref h0]) (n := 1) (Nat.le_of_ble_eq_true rfl)
  rw [lg_entry_eq]
  generalize (lg_sl ([.ref h0]) ++ List.replicate (1 - (lg_sl ([.ref h0])).length) Slot.unset).toArray = ls at hl ⊢
  have hl : lv_has ls 1 [(0, .ref h0)] := hl
  refine lv_aload_n hx hb dX0_entry_0 rfl (lv_at hl 0 rfl) ?_
  refine va_get (D := (dC, dI)) (ci := 0) (v := .int v_latestEntry) (C := RX0) (T := TX0) (N := 10) hx hb hts hwX hown hK hP 0 rfl rfl 7 (by decide) (hts (.fieldLink RX0 39 "StageWalker" "latestEntry" "Z") (by decide +kernel)) (fun _ h9 => h9) rfl dX0_entry_1 ?_
  exact W.zret (v := v_latestEntry) (ty := .boolean) hx hb hr (nb_z hf_latestEntry) (fun t ht hW => ⟨⟨_, (), rfl, by rfl, by rw [ht]; exact hP, va_K.moved hW.alike hK, hD⟩, hS.F ht⟩) hS.2.2 dX0_entry_4
def fx_roots (v_atp : Int32) (v_vsAtp : Int32) (v_hgatp : Int32) (a0 : Int32) (a1 : Int32) (a2 : Int32) : Int32 × Int32 × Int32 := (a0, a1, a2)
set_option maxHeartbeats 4000000 in
set_option maxRecDepth 100000 in
theorem ctx_roots (l : Launch) (dC : Nat → ClassId) (dI : Nat → Nat → Nat) (h0 : Nat) (q_words : Nat) (k_words : ClassId) (sz : Nat) (v_atp : Int32) (v_vsAtp : Int32) (v_hgatp : Int32) (v_rights : Int32) (v_latestPlace : Int32) (v_latestSecond : Int32) (v_latestEntry : Int32) (v_refusedAddress : Int64) (v_refusedEntry : Int32) (m_words : Nat → Int32) (a0 : Int32) (a1 : Int32) (a2 : Int32) : MWv l yX0_roots wsX0_roots ({ frames := 0, cells := 0, slots := 0, locals := 0 }) (dC, dI) vwCl [(k_words, .int)] [.ref h0, .int a0, .int a1, .int a2] sz (wx h0 q_words k_words v_atp v_vsAtp v_hgatp v_rights v_latestPlace v_latestSecond v_latestEntry v_refusedAddress v_refusedEntry m_words) (fun u : Int32 × Int32 × Int32 => (wx h0 q_words k_words u.1 u.2.1 u.2.2 v_rights v_latestPlace v_latestSecond v_latestEntry v_refusedAddress v_refusedEntry m_words)) (fx_roots v_atp v_vsAtp v_hgatp a0 a1 a2) := by
  refine Met.ofW (cc := cX0_roots) (maxL := 4) (ret := none) (by decide) rfl ?_
  intro p e s m args below meth c s₁ B hml hv
  obtain ⟨rfl, hsz, hP, hK, hD0⟩ := hv
  have hx := B.exec
  have hb := B.bytes
  have hr := B.returns
  have hts := atoms_spec (ws := wsX0_roots) B.pre
  have hown : s.vm.findClass RX0 = some m.cls := findClass_of_methodNamed B.named
  have hlocks := B.notSynchronized
  subst hsz
  have hwX : ∀ w ∈ u_ws RX0 TX0 10, w ∈ wsX0_roots := by decide +kernel
  have hD := hD0.self (sz := s.heap.size)
  generalize hAe : va_A (wx h0 q_words k_words v_atp v_vsAtp v_hgatp v_rights v_latestPlace v_latestSecond v_latestEntry v_refusedAddress v_refusedEntry m_words) s.heap.size = A at hD ⊢
  have hA : ∀ q : Nat, s.heap.size ≤ q → A q := fun q h => by rw [← hAe]; exact Or.inr h
  have hS : va_S A s.heap s.heap [] := va_S.rf
  have hP : va_P (dC, dI) vwCl (wx h0 q_words k_words v_atp v_vsAtp v_hgatp v_rights v_latestPlace v_latestSecond v_latestEntry v_refusedAddress v_refusedEntry m_words) s.heap := hP
  have hl := lv_entry ([.ref h0, .int a0, .int a1, .int a2]) (n := 4) (Nat.le_of_ble_eq_true rfl)
  rw [lg_entry_eq]
  generalize (lg_sl ([.ref h0, .int a0, .int a1, .int a2]) ++ List.replicate (4 - (lg_sl ([.ref h0, .int a0, .int a1, .int a2])).length) Slot.unset).toArray = ls at hl ⊢
  have hl : lv_has ls 4 [(0, .ref h0), (1, .int a0), (2, .int a1), (3, .int a2)] := hl
  refine lv_aload_n hx hb dX0_roots_0 rfl (lv_at hl 0 rfl) ?_
  refine lv_iload_n hx hb dX0_roots_1 rfl (lv_at hl 1 rfl) ?_
  refine va_put (D := (dC, dI)) (ci := 0) (v := .int a0) (ty := .int) (C := RX0) (T := TX0) (N := 10) hx hb hts hwX tyX0 tyX0_ok nmX0 hown hK hP hD hS 0 rfl rfl 1 (by decide) (hts (.fieldLink RX0 24 "StageWalker" "atp" "I") (by decide +kernel)) (fun _ h9 => h9) rfl (by decide +kernel) rfl rfl (Nat.le_of_ble_eq_true rfl) dX0_roots_2 (fun H locs hP hD hS => ?_)
  have hP : va_P (dC, dI) vwCl (wx h0 q_words k_words a0 v_vsAtp v_hgatp v_rights v_latestPlace v_latestSecond v_latestEntry v_refusedAddress v_refusedEntry m_words) H := hP
  have hD : va_D A (wx h0 q_words k_words a0 v_vsAtp v_hgatp v_rights v_latestPlace v_latestSecond v_latestEntry v_refusedAddress v_refusedEntry m_words) := hD
  refine lv_aload_n hx hb dX0_roots_5 rfl (lv_at hl 0 rfl) ?_
  refine lv_iload_n hx hb dX0_roots_6 rfl (lv_at hl 2 rfl) ?_
  refine va_put (D := (dC, dI)) (ci := 0) (v := .int a1) (ty := .int) (C := RX0) (T := TX0) (N := 10) hx hb hts hwX tyX0 tyX0_ok nmX0 hown hK hP hD hS 0 rfl rfl 2 (by decide) (hts (.fieldLink RX0 27 "StageWalker" "vsAtp" "I") (by decide +kernel)) (fun _ h9 => h9) rfl (by decide +kernel) rfl rfl (Nat.le_of_ble_eq_true rfl) dX0_roots_7 (fun H locs hP hD hS => ?_)
  have hP : va_P (dC, dI) vwCl (wx h0 q_words k_words a0 a1 v_hgatp v_rights v_latestPlace v_latestSecond v_latestEntry v_refusedAddress v_refusedEntry m_words) H := hP
  have hD : va_D A (wx h0 q_words k_words a0 a1 v_hgatp v_rights v_latestPlace v_latestSecond v_latestEntry v_refusedAddress v_refusedEntry m_words) := hD
  refine lv_aload_n hx hb dX0_roots_10 rfl (lv_at hl 0 rfl) ?_
  refine lv_iload_n hx hb dX0_roots_11 rfl (lv_at hl 3 rfl) ?_
  refine va_put (D := (dC, dI)) (ci := 0) (v := .int a2) (ty := .int) (C := RX0) (T := TX0) (N := 10) hx hb hts hwX tyX0 tyX0_ok nmX0 hown hK hP hD hS 0 rfl rfl 3 (by decide) (hts (.fieldLink RX0 30 "StageWalker" "hgatp" "I") (by decide +kernel)) (fun _ h9 => h9) rfl (by decide +kernel) rfl rfl (Nat.le_of_ble_eq_true rfl) dX0_roots_12 (fun H locs hP hD hS => ?_)
  have hP : va_P (dC, dI) vwCl (wx h0 q_words k_words a0 a1 a2 v_rights v_latestPlace v_latestSecond v_latestEntry v_refusedAddress v_refusedEntry m_words) H := hP
  have hD : va_D A (wx h0 q_words k_words a0 a1 a2 v_rights v_latestPlace v_latestSecond v_latestEntry v_refusedAddress v_refusedEntry m_words) := hD
  exact W.vret hx hb hr (fun t ht hW => ⟨⟨(a0, a1, a2), rfl, by rfl, by rw [ht]; exact hP, va_K.moved hW.alike hK, hD⟩, hS.F ht⟩) hS.2.2 dX0_roots_15
def fx_rights (v_rights : Int32) (a0 : Int32) : Int32 × Int32 := (v_rights, a0 &&& 15)
set_option maxHeartbeats 4000000 in
set_option maxRecDepth 100000 in
theorem ctx_rights (l : Launch) (dC : Nat → ClassId) (dI : Nat → Nat → Nat) (h0 : Nat) (q_words : Nat) (k_words : ClassId) (sz : Nat) (v_atp : Int32) (v_vsAtp : Int32) (v_hgatp : Int32) (v_rights : Int32) (v_latestPlace : Int32) (v_latestSecond : Int32) (v_latestEntry : Int32) (v_refusedAddress : Int64) (v_refusedEntry : Int32) (m_words : Nat → Int32) (a0 : Int32) : MWi l yX0_rights wsX0_rights ({ frames := 0, cells := 0, slots := 0, locals := 0 }) (dC, dI) vwCl [(k_words, .int)] [.ref h0, .int a0] sz (wx h0 q_words k_words v_atp v_vsAtp v_hgatp v_rights v_latestPlace v_latestSecond v_latestEntry v_refusedAddress v_refusedEntry m_words) (fun u : Int32 × Int32 => (wx h0 q_words k_words v_atp v_vsAtp v_hgatp u.2 v_latestPlace v_latestSecond v_latestEntry v_refusedAddress v_refusedEntry m_words)) (fun u : Int32 × Int32 => u.1) (fx_rights v_rights a0) := by
  refine Met.ofW (cc := cX0_rights) (maxL := 3) (ret := (some .int)) (by decide) rfl ?_
  intro p e s m args below meth c s₁ B hml hv
  obtain ⟨rfl, hsz, hP, hK, hD0⟩ := hv
  have hx := B.exec
  have hb := B.bytes
  have hr := B.returns
  have hts := atoms_spec (ws := wsX0_rights) B.pre
  have hown : s.vm.findClass RX0 = some m.cls := findClass_of_methodNamed B.named
  have hlocks := B.notSynchronized
  subst hsz
  have hwX : ∀ w ∈ u_ws RX0 TX0 10, w ∈ wsX0_rights := by decide +kernel
  have hD := hD0.self (sz := s.heap.size)
  generalize hAe : va_A (wx h0 q_words k_words v_atp v_vsAtp v_hgatp v_rights v_latestPlace v_latestSecond v_latestEntry v_refusedAddress v_refusedEntry m_words) s.heap.size = A at hD ⊢
  have hA : ∀ q : Nat, s.heap.size ≤ q → A q := fun q h => by rw [← hAe]; exact Or.inr h
  have hS : va_S A s.heap s.heap [] := va_S.rf
  have hP : va_P (dC, dI) vwCl (wx h0 q_words k_words v_atp v_vsAtp v_hgatp v_rights v_latestPlace v_latestSecond v_latestEntry v_refusedAddress v_refusedEntry m_words) s.heap := hP
  have hl := lv_entry ([.ref h0, .int a0]) (n := 3) (Nat.le_of_ble_eq_true rfl)
  rw [lg_entry_eq]
  generalize (lg_sl ([.ref h0, .int a0]) ++ List.replicate (3 - (lg_sl ([.ref h0, .int a0])).length) Slot.unset).toArray = ls at hl ⊢
  have hl : lv_has ls 3 [(0, .ref h0), (1, .int a0)] := hl
  refine lv_aload_n hx hb dX0_rights_0 rfl (lv_at hl 0 rfl) ?_
  refine va_get (D := (dC, dI)) (ci := 0) (v := .int v_rights) (C := RX0) (T := TX0) (N := 10) hx hb hts hwX hown hK hP 0 rfl rfl 4 (by decide) (hts (.fieldLink RX0 33 "StageWalker" "rights" "I") (by decide +kernel)) (fun _ h9 => h9) rfl dX0_rights_1 ?_
  refine lv_istore_n (lv' := [(2, .int v_rights), (0, .ref h0), (1, .int a0)]) hx hb dX0_rights_4 rfl hl (by decide) rfl (fun ls hl => ?_)
  refine lv_aload_n hx hb dX0_rights_5 rfl (lv_at hl 1 rfl) ?_
  refine lv_iload_n hx hb dX0_rights_6 rfl (lv_at hl 2 rfl) ?_
  refine lv_bipush (v := 15) hx hb dX0_rights_7 (by decide) ?_
  refine lv_iand hx hb dX0_rights_9 ?_
  refine lv_topi (fun z_1 ez_1 => ?_)
  refine va_put (D := (dC, dI)) (ci := 0) (v := .int z_1) (ty := .int) (C := RX0) (T := TX0) (N := 10) hx hb hts hwX tyX0 tyX0_ok nmX0 hown hK hP hD hS 0 rfl rfl 4 (by decide) (hts (.fieldLink RX0 33 "StageWalker" "rights" "I") (by decide +kernel)) (fun _ h9 => h9) rfl (by decide +kernel) rfl rfl (Nat.le_of_ble_eq_true rfl) dX0_rights_10 (fun H locs hP hD hS => ?_)
  have hP : va_P (dC, dI) vwCl (wx h0 q_words k_words v_atp v_vsAtp v_hgatp z_1 v_latestPlace v_latestSecond v_latestEntry v_refusedAddress v_refusedEntry m_words) H := hP
  have hD : va_D A (wx h0 q_words k_words v_atp v_vsAtp v_hgatp z_1 v_latestPlace v_latestSecond v_latestEntry v_refusedAddress v_refusedEntry m_words) := hD
  refine lv_iload_n hx hb dX0_rights_13 rfl (lv_at hl 0 rfl) ?_
  exact W.iret (v := v_rights) hx hb hr (fun t ht hW => ⟨⟨_, (v_rights, z_1), rfl, ⟨rfl, by subst ez_1; rfl⟩, by rw [ht]; exact hP, va_K.moved hW.alike hK, hD⟩, hS.F ht⟩) hS.2.2 dX0_rights_14
