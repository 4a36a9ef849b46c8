theorem vc_zero (cA : ClassId) (N : Nat) : vp_cell cA (N, .inl (fun _ => 0)) = arrV cA N (fun _ => defaultValue .int) := rfl
/-! where poke and word lay their hands -/
theorem wm_of {a : Int32} (h : ¬ fx_isWordOfMemory a = 0) : ∃ j : Nat, j < 262144 ∧ a = nI j ∧ j % 4 = 0 := by
  unfold fx_isWordOfMemory at h
  split at h
  · exact absurd rfl h
  · rename_i h0
    split at h
    · exact absurd rfl h
    · rename_i h1
      obtain ⟨j, hj, rfl⟩ := ii_of (n := 262144) rfl (by decide) h0 h1
      split at h
      · rename_i h2
        refine ⟨j, hj, rfl, ?_⟩
        rw [i4, pk_rem (by omega) (by decide) (by decide)] at h2
        exact (nI_eq (a := j % 4) (b := 0) (by omega) (by decide)).mp h2
      · exact absurd rfl h
theorem vi_word {a : Int32} (h : ¬ fx_isWordOfMemory a = 0) : vp_in (a / 4) 65536 := by
  obtain ⟨j, hj, rfl, -⟩ := wm_of h
  rw [i4, pk_div (by omega) (by decide) (by decide)]
  exact vp_in_nI (by omega) (by decide)
theorem pk_of {a z : Int32} (ez : z = a / 4) (h : ¬ fx_isWordOfMemory a = 0) (h2 : a ≤ 262124) : ∃ j : Nat, j ≤ 65531 ∧ z = nI j ∧ a = nI (4 * j) := by
  obtain ⟨j, hj, rfl, hm⟩ := wm_of h
  have : j ≤ 262124 := (nI_leI (a := j) (b := 262124) (by omega) (by decide)).mp h2
  refine ⟨j / 4, by omega, ?_, by congr 1; omega⟩
  rw [ez, i4, pk_div (by omega) (by decide) (by decide)]
theorem vi_poke0 {a z : Int32} (ez : z = a / 4) (h : ¬ fx_isWordOfMemory a = 0) (h2 : a ≤ 262124) : vp_in z 65536 := by
  obtain ⟨j, hj, rfl, -⟩ := pk_of ez h h2
  exact vp_in_nI (by omega) (by decide)
theorem vi_poke1 {a z : Int32} (ez : z = a / 4) (h : ¬ fx_isWordOfMemory a = 0) (h2 : a ≤ 262124) : vp_in (z + 1) 65536 := by
  obtain ⟨j, hj, rfl, -⟩ := pk_of ez h h2
  rw [show (1 : Int32) = nI 1 from rfl, nI_add]
  exact vp_in_nI (by omega) (by decide)
theorem vi_poke2 {a z : Int32} (ez : z = a / 4) (h : ¬ fx_isWordOfMemory a = 0) (h2 : a ≤ 262124) : vp_in (z + 2) 65536 := by
  obtain ⟨j, hj, rfl, -⟩ := pk_of ez h h2
  rw [show (2 : Int32) = nI 2 from rfl, nI_add]
  exact vp_in_nI (by omega) (by decide)
theorem vi_poke3 {a z : Int32} (ez : z = a / 4) (h : ¬ fx_isWordOfMemory a = 0) (h2 : a ≤ 262124) : vp_in (z + 3) 65536 := by
  obtain ⟨j, hj, rfl, -⟩ := pk_of ez h h2
  rw [show (3 : Int32) = nI 3 from rfl, nI_add]
  exact vp_in_nI (by omega) (by decide)
theorem vi_poke4 {a z : Int32} (ez : z = a / 4) (h : ¬ fx_isWordOfMemory a = 0) (h2 : a ≤ 262124) : vp_in (z + 4) 65536 := by
  obtain ⟨j, hj, rfl, -⟩ := pk_of ez h h2
  rw [show (4 : Int32) = nI 4 from rfl, nI_add]
  exact vp_in_nI (by omega) (by decide)
def fx_word (m_words : Nat → Int32) (a0 : Int32) : Int32 := if ((fx_isWordOfMemory a0)) = 0 then 0 else m_words (a0 / 4).toNatClampNeg
set_option maxHeartbeats 4000000 in
set_option maxRecDepth 100000 in
theorem ctx_word (l : Launch) (dC : Nat → ClassId) (dI : Nat → Nat → Nat) (h0 : Nat) (q_words : Nat) (k_words : ClassId) (sz : Nat) (v_atp : Int32) (v_vsAtp : Int32) (v_hgatp : Int32) (v_rights : Int32) (v_latestPlace : Int32) (v_latestSecond : Int32) (v_latestEntry : Int32) (v_refusedAddress : Int64) (v_refusedEntry : Int32) (m_words : Nat → Int32) (a0 : Int32) : MRi l yX0_word wsX0_word ({ frames := 1, cells := 0, slots := 0, locals := 20 }) (dC, dI) vwCl [(k_words, .int)] [.ref h0, .int a0] sz (wx h0 q_words k_words v_atp v_vsAtp v_hgatp v_rights v_latestPlace v_latestSecond v_latestEntry v_refusedAddress v_refusedEntry m_words) (fx_word m_words a0) := by
  refine Met.ofW (cc := cX0_word) (maxL := 2) (ret := (some .int)) (by decide) rfl ?_
  intro p e s m args below meth c s₁ B hml hv
  obtain ⟨rfl, hsz, hP, hK, hD0⟩ := hv
  have hx := B.exec
  have hb := B.bytes
  have hr := B.returns
  have hts := atoms_spec (ws := wsX0_word) B.pre
  have hown : s.vm.findClass RX0 = some m.cls := findClass_of_methodNamed B.named
  have hlocks := B.notSynchronized
  subst hsz
  have hwX : ∀ w ∈ u_ws RX0 TX0 10, w ∈ wsX0_word := by decide +kernel
  have hD := hD0.self (sz := s.heap.size)
  generalize hAe : va_A (wx h0 q_words k_words v_atp v_vsAtp v_hgatp v_rights v_latestPlace v_latestSecond v_latestEntry v_refusedAddress v_refusedEntry m_words) s.heap.size = A at hD ⊢
  have hA : ∀ q : Nat, s.heap.size ≤ q → A q := fun q h => by rw [← hAe]; exact Or.inr h
  have hS : va_S A s.heap s.heap [] := va_S.rf
  have hP : va_P (dC, dI) vwCl (wx h0 q_words k_words v_atp v_vsAtp v_hgatp v_rights v_latestPlace v_latestSecond v_latestEntry v_refusedAddress v_refusedEntry m_words) s.heap := hP
  have hl := lv_entry ([.ref h0, .int a0]) (n := 2) (Nat.le_of_ble_eq_true rfl)
  rw [lg_entry_eq]
  generalize (lg_sl ([.ref h0, .int a0]) ++ List.replicate (2 - (lg_sl ([.ref h0, .int a0])).length) Slot.unset).toArray = ls at hl ⊢
  have hl : lv_has ls 2 [(0, .ref h0), (1, .int a0)] := hl
  refine lv_iload_n hx hb dX0_word_0 rfl (lv_at hl 1 rfl) ?_
  refine cs_i (va_runS (As := [.int a0]) (rest := []) ⟨hx, hb, hml, hown, hts⟩ (ctx_isWordOfMemory l s.heap.size a0) (va_cwS 1 hts gX0_word_X0_isWordOfMemory rfl rfl rfl (by decide +kernel) ⟨Nat.le_of_ble_eq_true rfl, Nat.le_of_ble_eq_true rfl⟩) ⟨fun a U g mk q => q, fun U hU hW => ⟨rfl, congrArg Array.size hU⟩⟩ rfl rfl hl.1 rfl (lv_room (Nat.le_of_ble_eq_true rfl)) dX0_word_1 ⟨Nat.zero_le _, Nat.zero_le _⟩) hA hP hS (fun H locs hP hS => ?_)
  refine lv_if_eq (tgt := 18) hx hb dX0_word_4 (by decide) (fun c_4 => ?_) (fun c_4 => ?_)
  · skip
    refine lv_iconst (v := 0) hx hb dX0_word_18 (by decide) ?_
    exact W.iret (v := 0) hx hb hr (fun t ht hW => ⟨⟨_, (), rfl, by first | (rw [fx_word, if_pos c_4]; done) | (simp only [fx_word, if_pos c_4]; done) | (rw [fx_word, if_pos c_4] <;> rfl), by rw [ht]; exact hP, va_K.moved hW.alike hK, hD⟩, hS.F ht⟩) hS.2.2 dX0_word_19
  · skip
    refine lv_aload_n hx hb dX0_word_7 rfl (lv_at hl 0 rfl) ?_
    refine va_get (D := (dC, dI)) (ci := 0) (v := .ref q_words) (C := RX0) (T := TX0) (N := 10) hx hb hts hwX hown hK hP 0 rfl rfl 0 (by decide) (hts (.fieldLink RX0 10 "StageWalker" "words" "[I") (by decide +kernel)) (fun _ h9 => h9) rfl dX0_word_8 ?_
    refine lv_iload_n hx hb dX0_word_11 rfl (lv_at hl 1 rfl) ?_
    refine lv_iconst (v := 4) hx hb dX0_word_12 (by decide) ?_
    refine lv_idiv hx hb dX0_word_13 (by decide) ?_
    refine va_iald (cA := k_words) (f := m_words) hx hb hK hP 1 0 rfl rfl (i := a0 / 4) (vi_word c_4) dX0_word_14 ?_
    refine lv_goto (tgt := 19) hx hb dX0_word_15 (by decide) ?_
    exact W.iret (v := m_words (a0 / 4).toNatClampNeg) hx hb hr (fun t ht hW => ⟨⟨_, (), rfl, by first | (rw [fx_word, if_neg c_4]; done) | (simp only [fx_word, if_neg c_4]; done) | (rw [fx_word, if_neg c_4] <;> rfl), by rw [ht]; exact hP, va_K.moved hW.alike hK, hD⟩, hS.F ht⟩) hS.2.2 dX0_word_19
def fx_poke (m_words : Nat → Int32) (a0 : Int32) (a1 : Int32) (a2 : Int32) (a3 : Int32) (a4 : Int32) (a5 : Int32) : Int32 × (Nat → Int32) := if ((fx_isWordOfMemory a0)) = 0 then ((-1), m_words) else if a0 ≤ 262124 then (a0 + 20, upd (upd (upd (upd (upd m_words (a0 / 4).toNatClampNeg a1) ((a0 / 4) + 1).toNatClampNeg a2) ((a0 / 4) + 2).toNatClampNeg a3) ((a0 / 4) + 3).toNatClampNeg a4) ((a0 / 4) + 4).toNatClampNeg a5) else ((-1), m_words)
set_option maxHeartbeats 4000000 in
set_option maxRecDepth 100000 in
theorem ctx_poke (l : Launch) (dC : Nat → ClassId) (dI : Nat → Nat → Nat) (h0 : Nat) (q_words : Nat) (k_words : ClassId) (sz : Nat) (v_atp : Int32) (v_vsAtp : Int32) (v_hgatp : Int32) (v_rights : Int32) (v_latestPlace : Int32) (v_latestSecond : Int32) (v_latestEntry : Int32) (v_refusedAddress : Int64) (v_refusedEntry : Int32) (m_words : Nat → Int32) (a0 : Int32) (a1 : Int32) (a2 : Int32) (a3 : Int32) (a4 : Int32) (a5 : Int32) : MWi l yX0_poke wsX0_poke ({ frames := 1, cells := 0, slots := 0, locals := 20 }) (dC, dI) vwCl [(k_words, .int)] [.ref h0, .int a0, .int a1, .int a2, .int a3, .int a4, .int a5] sz (wx h0 q_words k_words v_atp v_vsAtp v_hgatp v_rights v_latestPlace v_latestSecond v_latestEntry v_refusedAddress v_refusedEntry m_words) (fun u : Int32 × (Nat → Int32) => (wx h0 q_words k_words v_atp v_vsAtp v_hgatp v_rights v_latestPlace v_latestSecond v_latestEntry v_refusedAddress v_refusedEntry u.2)) (fun u : Int32 × (Nat → Int32) => u.1) (fx_poke m_words a0 a1 a2 a3 a4 a5) := by
  refine Met.ofW (cc := cX0_poke) (maxL := 8) (ret := (some .int)) (by decide) rfl ?_
  intro p e s m args below meth c s₁ B hml hv
  obtain ⟨rfl, hsz, hP, hK, hD0⟩ := hv
  have hx := B.exec
  have hb := B.bytes
  have hr := B.returns
  have hts := atoms_spec (ws := wsX0_poke) B.pre
  have hown : s.vm.findClass RX0 = some m.cls := findClass_of_methodNamed B.named
  have hlocks := B.notSynchronized
  subst hsz
  have hwX : ∀ w ∈ u_ws RX0 TX0 10, w ∈ wsX0_poke := by decide +kernel
  have hD := hD0.self (sz := s.heap.size)
  generalize hAe : va_A (wx h0 q_words k_words v_atp v_vsAtp v_hgatp v_rights v_latestPlace v_latestSecond v_latestEntry v_refusedAddress v_refusedEntry m_words) s.heap.size = A at hD ⊢
  have hA : ∀ q : Nat, s.heap.size ≤ q → A q := fun q h => by rw [← hAe]; exact Or.inr h
  have hS : va_S A s.heap s.heap [] := va_S.rf
  have hP : va_P (dC, dI) vwCl (wx h0 q_words k_words v_atp v_vsAtp v_hgatp v_rights v_latestPlace v_latestSecond v_latestEntry v_refusedAddress v_refusedEntry m_words) s.heap := hP
  have hl := lv_entry ([.ref h0, .int a0, .int a1, .int a2, .int a3, .int a4, .int a5]) (n := 8) (Nat.le_of_ble_eq_true rfl)
  rw [lg_entry_eq]
  generalize (lg_sl ([.ref h0, .int a0, .int a1, .int a2, .int a3, .int a4, .int a5]) ++ List.replicate (8 - (lg_sl ([.ref h0, .int a0, .int a1, .int a2, .int a3, .int a4, .int a5])).length) Slot.unset).toArray = ls at hl ⊢
  have hl : lv_has ls 8 [(0, .ref h0), (1, .int a0), (2, .int a1), (3, .int a2), (4, .int a3), (5, .int a4), (6, .int a5)] := hl
  refine lv_iload_n hx hb dX0_poke_0 rfl (lv_at hl 1 rfl) ?_
  refine cs_i (va_runS (As := [.int a0]) (rest := []) ⟨hx, hb, hml, hown, hts⟩ (ctx_isWordOfMemory l s.heap.size a0) (va_cwS 1 hts gX0_poke_X0_isWordOfMemory rfl rfl rfl (by decide +kernel) ⟨Nat.le_of_ble_eq_true rfl, Nat.le_of_ble_eq_true rfl⟩) ⟨fun a U g mk q => q, fun U hU hW => ⟨rfl, congrArg Array.size hU⟩⟩ rfl rfl hl.1 rfl (lv_room (Nat.le_of_ble_eq_true rfl)) dX0_poke_1 ⟨Nat.zero_le _, Nat.zero_le _⟩) hA hP hS (fun H locs hP hS => ?_)
  refine lv_if_eq (tgt := 13) hx hb dX0_poke_4 (by decide) (fun c_4 => ?_) (fun c_4 => ?_)
  · skip
    refine lv_iconst (v := -1) hx hb dX0_poke_13 (by decide) ?_
    exact W.iret (v := (-1)) hx hb hr (fun t ht hW => ⟨⟨_, ((-1), m_words), rfl, ⟨rfl, by first | (rw [fx_poke, if_pos c_4]; done) | (simp only [fx_poke, if_pos c_4]; done) | (rw [fx_poke, if_pos c_4] <;> rfl)⟩, by rw [ht]; exact hP, va_K.moved hW.alike hK, hD⟩, hS.F ht⟩) hS.2.2 dX0_poke_14
  · skip
    refine lv_iload_n hx hb dX0_poke_7 rfl (lv_at hl 1 rfl) ?_
    refine lv_ldc hx hb hown (hts (.constant RX0 47 262124) (by decide +kernel)) dX0_poke_8 ?_
    refine lv_icmp_le (tgt := 15) hx hb dX0_poke_10 (by decide) (fun c_10 => ?_) (fun c_10 => ?_)
    · skip
      refine lv_iload_n hx hb dX0_poke_15 rfl (lv_at hl 1 rfl) ?_
      refine lv_iconst (v := 4) hx hb dX0_poke_16 (by decide) ?_
      refine lv_idiv hx hb dX0_poke_17 (by decide) ?_
      refine lv_topi (fun z_1 ez_1 => ?_)
      refine lv_istore (lv' := [(7, .int z_1), (0, .ref h0), (1, .int a0), (2, .int a1), (3, .int a2), (4, .int a3), (5, .int a4), (6, .int a5)]) hx hb dX0_poke_18 hl (by decide) rfl (fun ls hl => ?_)
      refine lv_aload_n hx hb dX0_poke_20 rfl (lv_at hl 1 rfl) ?_
      refine va_get (D := (dC, dI)) (ci := 0) (v := .ref q_words) (C := RX0) (T := TX0) (N := 10) hx hb hts hwX hown hK hP 0 rfl rfl 0 (by decide) (hts (.fieldLink RX0 10 "StageWalker" "words" "[I") (by decide +kernel)) (fun _ h9 => h9) rfl dX0_poke_21 ?_
      refine lv_iload hx hb dX0_poke_24 (lv_at hl 0 rfl) ?_
      refine lv_iload_n hx hb dX0_poke_26 rfl (lv_at hl 3 rfl) ?_
      refine va_iast (cA := k_words) (f := m_words) hx hb hK hP hD hS 1 0 rfl rfl (i := z_1) (x := a1) (vi_poke0 ez_1 c_4 c_10) dX0_poke_27 (fun H locs hP hD hS => ?_)
      have hP : va_P (dC, dI) vwCl (wx h0 q_words k_words v_atp v_vsAtp v_hgatp v_rights v_latestPlace v_latestSecond v_latestEntry v_refusedAddress v_refusedEntry (upd m_words z_1.toNatClampNeg a1)) H := hP
      have hD : va_D A (wx h0 q_words k_words v_atp v_vsAtp v_hgatp v_rights v_latestPlace v_latestSecond v_latestEntry v_refusedAddress v_refusedEntry (upd m_words z_1.toNatClampNeg a1)) := hD
      refine lv_aload_n hx hb dX0_poke_28 rfl (lv_at hl 1 rfl) ?_
      refine va_get (D := (dC, dI)) (ci := 0) (v := .ref q_words) (C := RX0) (T := TX0) (N := 10) hx hb hts hwX hown hK hP 0 rfl rfl 0 (by decide) (hts (.fieldLink RX0 10 "StageWalker" "words" "[I") (by decide +kernel)) (fun _ h9 => h9) rfl dX0_poke_29 ?_
      refine lv_iload hx hb dX0_poke_32 (lv_at hl 0 rfl) ?_
      refine lv_iconst (v := 1) hx hb dX0_poke_34 (by decide) ?_
      refine lv_iadd hx hb dX0_poke_35 ?_
      refine lv_iload_n hx hb dX0_poke_36 rfl (lv_at hl 4 rfl) ?_
      refine va_iast (cA := k_words) (f := upd m_words z_1.toNatClampNeg a1) hx hb hK hP hD hS 1 0 rfl rfl (i := z_1 + 1) (x := a2) (vi_poke1 ez_1 c_4 c_10) dX0_poke_37 (fun H locs hP hD hS => ?_)
      have hP : va_P (dC, dI) vwCl (wx h0 q_words k_words v_atp v_vsAtp v_hgatp v_rights v_latestPlace v_latestSecond v_latestEntry v_refusedAddress v_refusedEntry (upd (upd m_words z_1.toNatClampNeg a1) (z_1 + 1).toNatClampNeg a2)) H := hP
      have hD : va_D A (wx h0 q_words k_words v_atp v_vsAtp v_hgatp v_rights v_latestPlace v_latestSecond v_latestEntry v_refusedAddress v_refusedEntry (upd (upd m_words z_1.toNatClampNeg a1) (z_1 + 1).toNatClampNeg a2)) := hD
      refine lv_aload_n hx hb dX0_poke_38 rfl (lv_at hl 1 rfl) ?_
      refine va_get (D := (dC, dI)) (ci := 0) (v := .ref q_words) (C := RX0) (T := TX0) (N := 10) hx hb hts hwX hown hK hP 0 rfl rfl 0 (by decide) (hts (.fieldLink RX0 10 "StageWalker" "words" "[I") (by decide +kernel)) (fun _ h9 => h9) rfl dX0_poke_39 ?_
      refine lv_iload hx hb dX0_poke_42 (lv_at hl 0 rfl) ?_
      refine lv_iconst (v := 2) hx hb dX0_poke_44 (by decide) ?_
      refine lv_iadd hx hb dX0_poke_45 ?_
      refine lv_iload hx hb dX0_poke_46 (lv_at hl 5 rfl) ?_
      refine va_iast (cA := k_words) (f := upd (upd m_words z_1.toNatClampNeg a1) (z_1 + 1).toNatClampNeg a2) hx hb hK hP hD hS 1 0 rfl rfl (i := z_1 + 2) (x := a3) (vi_poke2 ez_1 c_4 c_10) dX0_poke_48 (fun H locs hP hD hS => ?_)
      have hP : va_P (dC, dI) vwCl (wx h0 q_words k_words v_atp v_vsAtp v_hgatp v_rights v_latestPlace v_latestSecond v_latestEntry v_refusedAddress v_refusedEntry (upd (upd (upd m_words z_1.toNatClampNeg a1) (z_1 + 1).toNatClampNeg a2) (z_1 + 2).toNatClampNeg a3)) H := hP
      have hD : va_D A (wx h0 q_words k_words v_atp v_vsAtp v_hgatp v_rights v_latestPlace v_latestSecond v_latestEntry v_refusedAddress v_refusedEntry (upd (upd (upd m_words z_1.toNatClampNeg a1) (z_1 + 1).toNatClampNeg a2) (z_1 + 2).toNatClampNeg a3)) := hD
      refine lv_aload_n hx hb dX0_poke_49 rfl (lv_at hl 1 rfl) ?_
      refine va_get (D := (dC, dI)) (ci := 0) (v := .ref q_words) (C := RX0) (T := TX0) (N := 10) hx hb hts hwX hown hK hP 0 rfl rfl 0 (by decide) (hts (.fieldLink RX0 10 "StageWalker" "words" "[I") (by decide +kernel)) (fun _ h9 => h9) rfl dX0_poke_50 ?_
      refine lv_iload hx hb dX0_poke_53 (lv_at hl 0 rfl) ?_
      refine lv_iconst (v := 3) hx hb dX0_poke_55 (by decide) ?_
      refine lv_iadd hx hb dX0_poke_56 ?_
      refine lv_iload hx hb dX0_poke_57 (lv_at hl 6 rfl) ?_
      refine va_iast (cA := k_words) (f := upd (upd (upd m_words z_1.toNatClampNeg a1) (z_1 + 1).toNatClampNeg a2) (z_1 + 2).toNatClampNeg a3) hx hb hK hP hD hS 1 0 rfl rfl (i := z_1 + 3) (x := a4) (vi_poke3 ez_1 c_4 c_10) dX0_poke_59 (fun H locs hP hD hS => ?_)
      have hP : va_P (dC, dI) vwCl (wx h0 q_words k_words v_atp v_vsAtp v_hgatp v_rights v_latestPlace v_latestSecond v_latestEntry v_refusedAddress v_refusedEntry (upd (upd (upd (upd m_words z_1.toNatClampNeg a1) (z_1 + 1).toNatClampNeg a2) (z_1 + 2).toNatClampNeg a3) (z_1 + 3).toNatClampNeg a4)) H := hP
      have hD : va_D A (wx h0 q_words k_words v_atp v_vsAtp v_hgatp v_rights v_latestPlace v_latestSecond v_latestEntry v_refusedAddress v_refusedEntry (upd (upd (upd (upd m_words z_1.toNatClampNeg a1) (z_1 + 1).toNatClampNeg a2) (z_1 + 2).toNatClampNeg a3) (z_1 + 3).toNatClampNeg a4)) := hD
      refine lv_aload_n hx hb dX0_poke_60 rfl (lv_at hl 1 rfl) ?_
      refine va_get (D := (dC, dI)) (ci := 0) (v := .ref q_words) (C := RX0) (T := TX0) (N := 10) hx hb hts hwX hown hK hP 0 rfl rfl 0 (by decide) (hts (.fieldLink RX0 10 "StageWalker" "words" "[I") (by decide +kernel)) (fun _ h9 => h9) rfl dX0_poke_61 ?_
      refine lv_iload hx hb dX0_poke_64 (lv_at hl 0 rfl) ?_
      refine lv_iconst (v := 4) hx hb dX0_poke_66 (by decide) ?_
      refine lv_iadd hx hb dX0_poke_67 ?_
      refine lv_iload hx hb dX0_poke_68 (lv_at hl 7 rfl) ?_
      refine va_iast (cA := k_words) (f := upd (upd (upd (upd m_words z_1.toNatClampNeg a1) (z_1 + 1).toNatClampNeg a2) (z_1 + 2).toNatClampNeg a3) (z_1 + 3).toNatClampNeg a4) hx hb hK hP hD hS 1 0 rfl rfl (i := z_1 + 4) (x := a5) (vi_poke4 ez_1 c_4 c_10) dX0_poke_70 (fun H locs hP hD hS => ?_)
      have hP : va_P (dC, dI) vwCl (wx h0 q_words k_words v_atp v_vsAtp v_hgatp v_rights v_latestPlace v_latestSecond v_latestEntry v_refusedAddress v_refusedEntry (upd (upd (upd (upd (upd m_words z_1.toNatClampNeg a1) (z_1 + 1).toNatClampNeg a2) (z_1 + 2).toNatClampNeg a3) (z_1 + 3).toNatClampNeg a4) (z_1 + 4).toNatClampNeg a5)) H := hP
      have hD : va_D A (wx h0 q_words k_words v_atp v_vsAtp v_hgatp v_rights v_latestPlace v_latestSecond v_latestEntry v_refusedAddress v_refusedEntry (upd (upd (upd (upd (upd m_words z_1.toNatClampNeg a1) (z_1 + 1).toNatClampNeg a2) (z_1 + 2).toNatClampNeg a3) (z_1 + 3).toNatClampNeg a4) (z_1 + 4).toNatClampNeg a5)) := hD
      refine lv_iload_n hx hb dX0_poke_71 rfl (lv_at hl 2 rfl) ?_
      refine lv_bipush (v := 20) hx hb dX0_poke_72 (by decide) ?_
      refine lv_iadd hx hb dX0_poke_74 ?_
      exact W.iret (v := a0 + 20) hx hb hr (fun t ht hW => ⟨⟨_, (a0 + 20, upd (upd (upd (upd (upd m_words z_1.toNatClampNeg a1) (z_1 + 1).toNatClampNeg a2) (z_1 + 2).toNatClampNeg a3) (z_1 + 3).toNatClampNeg a4) (z_1 + 4).toNatClampNeg a5), rfl, ⟨rfl, by subst ez_1; first | (rw [fx_poke, if_neg c_4, if_pos c_10]; done) | (simp only [fx_poke, if_neg c_4, if_pos c_10]; done) | (rw [fx_poke, if_neg c_4, if_pos c_10] <;> rfl)⟩, by rw [ht]; exact hP, va_K.moved hW.alike hK, hD⟩, hS.F ht⟩) hS.2.2 dX0_poke_75
    · skip
      refine lv_iconst (v := -1) hx hb dX0_poke_13 (by decide) ?_
      exact W.iret (v := (-1)) hx hb hr (fun t ht hW => ⟨⟨_, ((-1), m_words), rfl, ⟨rfl, by first | (rw [fx_poke, if_neg c_4, if_neg c_10]; done) | (simp only [fx_poke, if_neg c_4, if_neg c_10]; done) | (rw [fx_poke, if_neg c_4, if_neg c_10] <;> rfl)⟩, by rw [ht]; exact hP, va_K.moved hW.alike hK, hD⟩, hS.F ht⟩) hS.2.2 dX0_poke_14
set_option maxHeartbeats 4000000 in
set_option maxRecDepth 100000 in
theorem ctj_fill (l : Launch) (dC : Nat → ClassId) (dI : Nat → Nat → Nat) (q0 : Nat) (kA : ClassId) (N : Nat) (hN : N < 2 ^ 31) (sz : Nat) (f0 : Nat → Int32) (v0 : Int32) : MWv (U := Unit) l yJ7_fill_53178 wsJ7_fill_53178 ({ frames := 0, cells := 0, slots := 0, locals := 0 }) (dC, dI) vwCl [(kA, .int)] [.ref q0, .int v0] sz [(q0, .inl (kA, N, .inl f0))] (fun _ => [(q0, .inl (kA, N, .inl (fun _ => v0)))]) () := by
  refine Met.ofW (cc := cJ7_fill_53178) (maxL := 4) (ret := none) (by decide) rfl ?_
  intro p e s m args below meth c s₁ B hml hv
  obtain ⟨rfl, hsz, hP, hK, hD0⟩ := hv
  have hx := B.exec
  have hb := B.bytes
  have hr := B.returns
  have hlocks := B.notSynchronized
  subst hsz
  have hD := hD0.self (sz := s.heap.size)
  generalize hAe : va_A [(q0, .inl (kA, N, .inl f0))] s.heap.size = A at hD ⊢
  have hA : ∀ q : Nat, s.heap.size ≤ q → A q := fun q h => by rw [← hAe]; exact Or.inr h
  have hS : va_S A s.heap s.heap [] := va_S.rf
  have hP : va_P (dC, dI) vwCl [(q0, .inl (kA, N, .inl f0))] s.heap := hP
  have hl := lv_entry ([.ref q0, .int v0]) (n := 4) (Nat.le_of_ble_eq_true rfl)
  rw [lg_entry_eq]
  generalize (lg_sl ([.ref q0, .int v0]) ++ List.replicate (4 - (lg_sl ([.ref q0, .int v0])).length) Slot.unset).toArray = ls at hl ⊢
  have hl : lv_has ls 4 [(0, .ref q0), (1, .int v0)] := hl
  refine lv_iconst (v := 0) hx hb dJ7_fill_53178_0 (by decide) ?_
  refine lv_istore_n (lv' := [(2, .int 0), (0, .ref q0), (1, .int v0)]) hx hb dJ7_fill_53178_1 rfl hl (by decide) rfl (fun ls hl => ?_)
  refine lv_aload_n hx hb dJ7_fill_53178_2 rfl (lv_at hl 1 rfl) ?_
  refine va_alen (v := nI N) hx hb hK hP 0 0 rfl rfl rfl dJ7_fill_53178_3 ?_
  refine lv_istore_n (lv' := [(3, .int (nI N)), (2, .int 0), (0, .ref q0), (1, .int v0)]) hx hb dJ7_fill_53178_4 rfl hl (by decide) rfl (fun ls hl => ?_)
  refine lw_loop (σ := (Nat → Int32) × Heap × List Loc × Array Slot) (fun x => x.2.1) (fun x => x.2.2.1) (fun x => x.2.2.2) (fun n x => ∃ i : Nat, i + n = N ∧ (∀ j, j < i → x.1 j = v0) ∧ va_P (dC, dI) vwCl [(q0, .inl (kA, N, .inl x.1))] x.2.1 ∧ va_D A [(q0, .inl (kA, N, .inl x.1))] ∧ va_S A s.heap x.2.1 x.2.2.1 ∧ lv_has x.2.2.2 4 [(3, .int (nI N)), (2, .int (nI i)), (0, .ref q0), (1, .int v0)]) ?_ N (f0, s.heap, [], ls) ⟨0, Nat.zero_add N, fun j hj => absurd hj (Nat.not_lt_zero j), hP, hD, hS, hl⟩
  intro n x hI ih
  obtain ⟨f, H, locs, ls⟩ := x
  obtain ⟨i, hin, hf, hP, hD, hS, hl⟩ := hI
  have hf : ∀ j, j < i → f j = v0 := hf
  have hP : va_P (dC, dI) vwCl [(q0, .inl (kA, N, .inl f))] H := hP
  have hD : va_D A [(q0, .inl (kA, N, .inl f))] := hD
  have hS : va_S A s.heap H locs := hS
  have hl : lv_has ls 4 [(3, .int (nI N)), (2, .int (nI i)), (0, .ref q0), (1, .int v0)] := hl
  refine lv_iload_n hx hb dJ7_fill_53178_5 rfl (lv_at hl 1 rfl) ?_
  refine lv_iload_n hx hb dJ7_fill_53178_6 rfl (lv_at hl 0 rfl) ?_
  refine lv_icmp_ge (tgt := 20) hx hb dJ7_fill_53178_7 (by decide) (fun c_7 => ?_) (fun c_7 => ?_)
  · have hi : i = N := by
      have := (nI_leI hN (by omega)).mp c_7
      omega
    subst hi
    have hP : va_P (dC, dI) vwCl [(q0, .inl (kA, i, .inl (fun _ => v0)))] H := by
      intro k q hk
      match k, hk with
      | 0, hk =>
        cases hk
        have := hP 0 _ rfl
        show H[q0]? = some (vp_cell kA (i, .inl (fun _ => v0)))
        rw [← vc_congr (f := f) (g := fun _ => v0) (fun j hj => hf j hj)]
        exact this
      | k + 1, hk => simp at hk
    have hD : va_D A [(q0, .inl (kA, i, .inl (fun _ => v0)))] := by
      refine ⟨fun a b p q h1 h2 _ => ?_, fun k q hk => ?_⟩
      · match a, b, h1, h2 with
        | 0, 0, _, _ => rfl
        | 0, b + 1, _, h2 => simp at h2
        | a + 1, _, h1, _ => simp at h1
      · match k, hk with
        | 0, hk => cases hk; exact hD.2 0 (q0, .inl (kA, i, .inl f)) rfl
        | k + 1, hk => simp at hk
    exact W.vret hx hb hr (fun t ht hW => ⟨⟨(), rfl, rfl, by rw [ht]; exact hP, va_K.moved hW.alike hK, hD⟩, hS.F ht⟩) hS.2.2 dJ7_fill_53178_20
  · have hi : i < N := by
      rcases Nat.lt_or_ge i N with q | q
      · exact q
      · exact absurd ((nI_leI hN (by omega)).mpr q) c_7
    refine lv_aload_n hx hb dJ7_fill_53178_10 rfl (lv_at hl 2 rfl) ?_
    refine lv_iload_n hx hb dJ7_fill_53178_11 rfl (lv_at hl 1 rfl) ?_
    refine lv_iload_n hx hb dJ7_fill_53178_12 rfl (lv_at hl 3 rfl) ?_
    refine va_iast (cA := kA) (f := f) hx hb hK hP hD hS 0 0 rfl rfl (i := nI i) (x := v0) (vp_in_nI hi hN) dJ7_fill_53178_13 (fun H locs hP hD hS => ?_)
    have hcl : (nI i).toNatClampNeg = i := nI_clamp (by omega)
    rw [hcl] at hP hD
    have hP : va_P (dC, dI) vwCl [(q0, .inl (kA, N, .inl (upd f i v0)))] H := hP
    have hD : va_D A [(q0, .inl (kA, N, .inl (upd f i v0)))] := hD
    refine lv_iinc (v := nI (i + 1)) (lv' := [(2, .int (nI (i + 1))), (3, .int (nI N)), (0, .ref q0), (1, .int v0)]) hx hb dJ7_fill_53178_14 hl (k := 1) rfl (nI_1 i) (by decide) rfl (fun ls hl => ?_)
    refine lv_goto (tgt := 5) hx hb dJ7_fill_53178_17 (by decide) ?_
    exact ih (n - 1) (upd f i v0, H, locs, ls) (by omega) ⟨i + 1, by omega, fun j hj => by
      show upd f i v0 j = v0
      unfold upd
      by_cases h : j = i
      · rw [if_pos h]
      · rw [if_neg h]; exact hf j (by omega), hP, hD, hS, lv_sub hl [1, 0, 2, 3] rfl⟩
def fx_begin : Int32 × Int32 × Int32 × Int32 × Int32 × Int32 × Int32 × (Nat → Int32) := (0, 0, 0, 0, (-1), 0, 0, (fun _ => 0))
set_option maxHeartbeats 4000000 in
set_option maxRecDepth 100000 in
theorem ctx_begin (l : Launch) (dC : Nat → ClassId) (dI : Nat → Nat → Nat) (h0 : Nat) (q_words : Nat) (k_words : ClassId) (sz : Nat) (v_atp : Int32) (v_vsAtp : Int32) (v_hgatp : Int32) (v_rights : Int32) (v_latestPlace : Int32) (v_latestSecond : Int32) (v_latestEntry : Int32) (v_refusedAddress : Int64) (v_refusedEntry : Int32) (m_words : Nat → Int32) : MWv l yX0_begin wsX0_begin ({ frames := 1, cells := 0, slots := 0, locals := 23 }) (dC, dI) vwCl [(k_words, .int)] [.ref h0] sz (wx h0 q_words k_words v_atp v_vsAtp v_hgatp v_rights v_latestPlace v_latestSecond v_latestEntry v_refusedAddress v_refusedEntry m_words) (fun u : Int32 × Int32 × Int32 × Int32 × Int32 × Int32 × Int32 × (Nat → Int32) => (wx h0 q_words k_words u.1 u.2.1 u.2.2.1 u.2.2.2.1 u.2.2.2.2.1 u.2.2.2.2.2.1 u.2.2.2.2.2.2.1 v_refusedAddress v_refusedEntry u.2.2.2.2.2.2.2)) (fx_begin) := by
  refine Met.ofW (cc := cX0_begin) (maxL := 1) (ret := none) (by decide) rfl ?_
  intro p e s m args below meth c s₁ B hml hv
  obtain ⟨rfl, hsz, hP, hK, hD0⟩ := hv
  have hx := B.exec
  have hb := B.bytes
  have hr := B.returns
  have hts := atoms_spec (ws := wsX0_begin) B.pre
  have hown : s.vm.findClass RX0 = some m.cls := findClass_of_methodNamed B.named
  have hlocks := B.notSynchronized
  subst hsz
  have hwX : ∀ w ∈ u_ws RX0 TX0 10, w ∈ wsX0_begin := by decide +kernel
  have hD := hD0.self (sz := s.heap.size)
  generalize hAe : va_A (wx h0 q_words k_words v_atp v_vsAtp v_hgatp v_rights v_latestPlace v_latestSecond v_latestEntry v_refusedAddress v_refusedEntry m_words) s.heap.size = A at hD ⊢
  have hA : ∀ q : Nat, s.heap.size ≤ q → A q := fun q h => by rw [← hAe]; exact Or.inr h
  have hS : va_S A s.heap s.heap [] := va_S.rf
  have hP : va_P (dC, dI) vwCl (wx h0 q_words k_words v_atp v_vsAtp v_hgatp v_rights v_latestPlace v_latestSecond v_latestEntry v_refusedAddress v_refusedEntry m_words) s.heap := hP
  have hl := lv_entry ([.ref h0]) (n := 1) (Nat.le_of_ble_eq_true rfl)
  rw [lg_entry_eq]
  generalize (lg_sl ([.ref h0]) ++ List.replicate (1 - (lg_sl ([.ref h0])).length) Slot.unset).toArray = ls at hl ⊢
  have hl : lv_has ls 1 [(0, .ref h0)] := hl
  refine lv_aload_n hx hb dX0_begin_0 rfl (lv_at hl 0 rfl) ?_
  refine va_get (D := (dC, dI)) (ci := 0) (v := .ref q_words) (C := RX0) (T := TX0) (N := 10) hx hb hts hwX hown hK hP 0 rfl rfl 0 (by decide) (hts (.fieldLink RX0 10 "StageWalker" "words" "[I") (by decide +kernel)) (fun _ h9 => h9) rfl dX0_begin_1 ?_
  refine lv_iconst (v := 0) hx hb dX0_begin_4 (by decide) ?_
  have hPc := hP.sub (ws' := [(q_words, .inl (k_words, 65536, .inl m_words))]) [1] rfl
  have hDc := hD.sub (ws' := [(q_words, .inl (k_words, 65536, .inl m_words))]) [1] (by decide) rfl
  have hFc := va_free (wc := [(q_words, .inl (k_words, 65536, .inl m_words))]) hD hS hA [1] rfl
  refine va_callv (va_runS (As := [.ref q_words, .int 0]) (rest := []) ⟨hx, hb, hml, hown, hts⟩ (ctj_fill l dC dI q_words k_words 65536 (by decide) s.heap.size m_words 0) (va_cwS 2 hts gX0_begin_J7_fill_53178 rfl rfl rfl (by decide +kernel) ⟨Nat.le_of_ble_eq_true rfl, Nat.le_of_ble_eq_true rfl⟩) ⟨fun a U g mk q => ⟨q.1, q.2.1, q.2.2.1, va_K.moved (u := U) (U := U.calling g mk a) (Vm.Alike.refl U.vm) q.2.2.2.1, q.2.2.2.2⟩, fun U hU hW => ⟨rfl, by rw [hU], by rw [hU]; exact hPc, va_K.moved hW.alike hK, hDc.weaken (fun _ _ _ _ => trivial)⟩⟩ rfl rfl hl.1 rfl (lv_room (Nat.le_of_ble_eq_true rfl)) dX0_begin_5 ⟨Nat.zero_le _, Nat.zero_le _⟩) hS (fun q _ h => hFc q h) hFc (fun u t H1 locs ht hvm hw hB hz1 hk1 hS => ?_)
  obtain ⟨hP1, hK1, hD1⟩ := hB
  rw [ht] at hP1
  obtain ⟨hP, hD⟩ := va_join (wr := [(h0, .inr (0, [.ref q_words, .int v_atp, .int v_vsAtp, .int v_hgatp, .int v_rights, .int v_latestPlace, .int v_latestSecond, .int v_latestEntry, .long v_refusedAddress, .int v_refusedEntry]))]) (w1 := [(q_words, .inl (k_words, 65536, .inl (fun _ => 0)))]) hP hD [1] [0] rfl rfl (by decide) (by decide) hk1 hFc hP1 hD1
  generalize H1 = H at hP hS ⊢
  have hP : va_P (dC, dI) vwCl (wx h0 q_words k_words v_atp v_vsAtp v_hgatp v_rights v_latestPlace v_latestSecond v_latestEntry v_refusedAddress v_refusedEntry ((fun _ => 0))) H := hP
  have hD : va_D A (wx h0 q_words k_words v_atp v_vsAtp v_hgatp v_rights v_latestPlace v_latestSecond v_latestEntry v_refusedAddress v_refusedEntry ((fun _ => 0))) := hD
  refine lv_aload_n hx hb dX0_begin_8 rfl (lv_at hl 0 rfl) ?_
  refine lv_iconst (v := 0) hx hb dX0_begin_9 (by decide) ?_
  refine va_put (D := (dC, dI)) (ci := 0) (v := .int 0) (ty := .int) (C := RX0) (T := TX0) (N := 10) hx hb hts hwX tyX0 tyX0_ok nmX0 hown hK hP hD hS 0 rfl rfl 1 (by decide) (hts (.fieldLink RX0 24 "StageWalker" "atp" "I") (by decide +kernel)) (fun _ h9 => h9) rfl (by decide +kernel) rfl rfl (Nat.le_of_ble_eq_true rfl) dX0_begin_10 (fun H locs hP hD hS => ?_)
  have hP : va_P (dC, dI) vwCl (wx h0 q_words k_words 0 v_vsAtp v_hgatp v_rights v_latestPlace v_latestSecond v_latestEntry v_refusedAddress v_refusedEntry ((fun _ => 0))) H := hP
  have hD : va_D A (wx h0 q_words k_words 0 v_vsAtp v_hgatp v_rights v_latestPlace v_latestSecond v_latestEntry v_refusedAddress v_refusedEntry ((fun _ => 0))) := hD
  refine lv_aload_n hx hb dX0_begin_13 rfl (lv_at hl 0 rfl) ?_
  refine lv_iconst (v := 0) hx hb dX0_begin_14 (by decide) ?_
  refine va_put (D := (dC, dI)) (ci := 0) (v := .int 0) (ty := .int) (C := RX0) (T := TX0) (N := 10) hx hb hts hwX tyX0 tyX0_ok nmX0 hown hK hP hD hS 0 rfl rfl 2 (by decide) (hts (.fieldLink RX0 27 "StageWalker" "vsAtp" "I") (by decide +kernel)) (fun _ h9 => h9) rfl (by decide +kernel) rfl rfl (Nat.le_of_ble_eq_true rfl) dX0_begin_15 (fun H locs hP hD hS => ?_)
  have hP : va_P (dC, dI) vwCl (wx h0 q_words k_words 0 0 v_hgatp v_rights v_latestPlace v_latestSecond v_latestEntry v_refusedAddress v_refusedEntry ((fun _ => 0))) H := hP
  have hD : va_D A (wx h0 q_words k_words 0 0 v_hgatp v_rights v_latestPlace v_latestSecond v_latestEntry v_refusedAddress v_refusedEntry ((fun _ => 0))) := hD
  refine lv_aload_n hx hb dX0_begin_18 rfl (lv_at hl 0 rfl) ?_
  refine lv_iconst (v := 0) hx hb dX0_begin_19 (by decide) ?_
  refine va_put (D := (dC, dI)) (ci := 0) (v := .int 0) (ty := .int) (C := RX0) (T := TX0) (N := 10) hx hb hts hwX tyX0 tyX0_ok nmX0 hown hK hP hD hS 0 rfl rfl 3 (by decide) (hts (.fieldLink RX0 30 "StageWalker" "hgatp" "I") (by decide +kernel)) (fun _ h9 => h9) rfl (by decide +kernel) rfl rfl (Nat.le_of_ble_eq_true rfl) dX0_begin_20 (fun H locs hP hD hS => ?_)
  have hP : va_P (dC, dI) vwCl (wx h0 q_words k_words 0 0 0 v_rights v_latestPlace v_latestSecond v_latestEntry v_refusedAddress v_refusedEntry ((fun _ => 0))) H := hP
  have hD : va_D A (wx h0 q_words k_words 0 0 0 v_rights v_latestPlace v_latestSecond v_latestEntry v_refusedAddress v_refusedEntry ((fun _ => 0))) := hD
  refine lv_aload_n hx hb dX0_begin_23 rfl (lv_at hl 0 rfl) ?_
  refine lv_iconst (v := 0) hx hb dX0_begin_24 (by decide) ?_
  refine va_put (D := (dC, dI)) (ci := 0) (v := .int 0) (ty := .int) (C := RX0) (T := TX0) (N := 10) hx hb hts hwX tyX0 tyX0_ok nmX0 hown hK hP hD hS 0 rfl rfl 4 (by decide) (hts (.fieldLink RX0 33 "StageWalker" "rights" "I") (by decide +kernel)) (fun _ h9 => h9) rfl (by decide +kernel) rfl rfl (Nat.le_of_ble_eq_true rfl) dX0_begin_25 (fun H locs hP hD hS => ?_)
  have hP : va_P (dC, dI) vwCl (wx h0 q_words k_words 0 0 0 0 v_latestPlace v_latestSecond v_latestEntry v_refusedAddress v_refusedEntry ((fun _ => 0))) H := hP
  have hD : va_D A (wx h0 q_words k_words 0 0 0 0 v_latestPlace v_latestSecond v_latestEntry v_refusedAddress v_refusedEntry ((fun _ => 0))) := hD
  refine lv_aload_n hx hb dX0_begin_28 rfl (lv_at hl 0 rfl) ?_
  refine lv_iconst (v := -1) hx hb dX0_begin_29 (by decide) ?_
  refine va_put (D := (dC, dI)) (ci := 0) (v := .int ((-1))) (ty := .int) (C := RX0) (T := TX0) (N := 10) hx hb hts hwX tyX0 tyX0_ok nmX0 hown hK hP hD hS 0 rfl rfl 5 (by decide) (hts (.fieldLink RX0 14 "StageWalker" "latestPlace" "I") (by decide +kernel)) (fun _ h9 => h9) rfl (by decide +kernel) rfl rfl (Nat.le_of_ble_eq_true rfl) dX0_begin_30 (fun H locs hP hD hS => ?_)
  have hP : va_P (dC, dI) vwCl (wx h0 q_words k_words 0 0 0 0 ((-1)) v_latestSecond v_latestEntry v_refusedAddress v_refusedEntry ((fun _ => 0))) H := hP
  have hD : va_D A (wx h0 q_words k_words 0 0 0 0 ((-1)) v_latestSecond v_latestEntry v_refusedAddress v_refusedEntry ((fun _ => 0))) := hD
  refine lv_aload_n hx hb dX0_begin_33 rfl (lv_at hl 0 rfl) ?_
  refine lv_iconst (v := 0) hx hb dX0_begin_34 (by decide) ?_
  refine va_put (D := (dC, dI)) (ci := 0) (v := .int 0) (ty := .int) (C := RX0) (T := TX0) (N := 10) hx hb hts hwX tyX0 tyX0_ok nmX0 hown hK hP hD hS 0 rfl rfl 6 (by decide) (hts (.fieldLink RX0 36 "StageWalker" "latestSecond" "I") (by decide +kernel)) (fun _ h9 => h9) rfl (by decide +kernel) rfl rfl (Nat.le_of_ble_eq_true rfl) dX0_begin_35 (fun H locs hP hD hS => ?_)
  have hP : va_P (dC, dI) vwCl (wx h0 q_words k_words 0 0 0 0 ((-1)) 0 v_latestEntry v_refusedAddress v_refusedEntry ((fun _ => 0))) H := hP
  have hD : va_D A (wx h0 q_words k_words 0 0 0 0 ((-1)) 0 v_latestEntry v_refusedAddress v_refusedEntry ((fun _ => 0))) := hD
  refine lv_aload_n hx hb dX0_begin_38 rfl (lv_at hl 0 rfl) ?_
  refine lv_iconst (v := 0) hx hb dX0_begin_39 (by decide) ?_
  refine va_put (D := (dC, dI)) (ci := 0) (v := .int 0) (ty := .boolean) (C := RX0) (T := TX0) (N := 10) hx hb hts hwX tyX0 tyX0_ok nmX0 hown hK hP hD hS 0 rfl rfl 7 (by decide) (hts (.fieldLink RX0 39 "StageWalker" "latestEntry" "Z") (by decide +kernel)) (fun _ h9 => h9) rfl (by decide +kernel) nb_0 (by decide) (Nat.le_of_ble_eq_true rfl) dX0_begin_40 (fun H locs hP hD hS => ?_)
  have hP : va_P (dC, dI) vwCl (wx h0 q_words k_words 0 0 0 0 ((-1)) 0 0 v_refusedAddress v_refusedEntry ((fun _ => 0))) H := hP
  have hD : va_D A (wx h0 q_words k_words 0 0 0 0 ((-1)) 0 0 v_refusedAddress v_refusedEntry ((fun _ => 0))) := hD
  exact W.vret hx hb hr (fun t ht hW => ⟨⟨(0, 0, 0, 0, (-1), 0, 0, (fun _ => 0)), rfl, by rfl, by rw [ht]; exact hP, va_K.moved hW.alike hK, hD⟩, hS.F ht⟩) hS.2.2 dX0_begin_43
