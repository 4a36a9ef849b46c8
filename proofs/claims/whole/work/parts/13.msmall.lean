/-! StageWalkerModel: the world of an object, its small methods -/
abbrev wm (h0 : Nat) (q_memory : Nat) (k_memory : ClassId) (v_atp : Int32) (v_vsAtp : Int32) (v_hgatp : Int32) (v_rights : Int32) (v_code : Int32) (v_found : Int64) (v_wanted : Int64) (v_ofEntry : Int32) (m_memory : Nat → Int32) : va_W := [(h0, .inr (1, [.ref q_memory, .int v_atp, .int v_vsAtp, .int v_hgatp, .int v_rights, .int v_code, .long v_found, .long v_wanted, .int v_ofEntry])), (q_memory, .inl (k_memory, 65536, .inl m_memory))]
theorem vm_of {a : Int32} (h : ¬ a < 0) (h2 : a ≤ 262124) : ∃ j : Nat, j ≤ 262124 ∧ a = nI j := by
  obtain ⟨j, hj, rfl⟩ := nI_of h
  exact ⟨j, (nI_leI (a := j) (b := 262124) hj (by decide)).mp h2, rfl⟩
theorem vm_poke0 {a z : Int32} (ez : z = a / 4) (h : ¬ a < 0) (h2 : a ≤ 262124) : vp_in z 65536 := by
  obtain ⟨j, hj, rfl⟩ := vm_of h h2
  rw [ez, i4, pk_div (by omega) (by decide) (by decide)]
  exact vp_in_nI (by omega) (by decide)
theorem vm_poke1 {a z : Int32} (ez : z = a / 4) (h : ¬ a < 0) (h2 : a ≤ 262124) : vp_in (z + 1) 65536 := by
  obtain ⟨j, hj, rfl⟩ := vm_of h h2
  rw [ez, i4, pk_div (by omega) (by decide) (by decide), show (1 : Int32) = nI 1 from rfl, nI_add]
  exact vp_in_nI (by omega) (by decide)
theorem vm_poke2 {a z : Int32} (ez : z = a / 4) (h : ¬ a < 0) (h2 : a ≤ 262124) : vp_in (z + 2) 65536 := by
  obtain ⟨j, hj, rfl⟩ := vm_of h h2
  rw [ez, i4, pk_div (by omega) (by decide) (by decide), show (2 : Int32) = nI 2 from rfl, nI_add]
  exact vp_in_nI (by omega) (by decide)
theorem vm_poke3 {a z : Int32} (ez : z = a / 4) (h : ¬ a < 0) (h2 : a ≤ 262124) : vp_in (z + 3) 65536 := by
  obtain ⟨j, hj, rfl⟩ := vm_of h h2
  rw [ez, i4, pk_div (by omega) (by decide) (by decide), show (3 : Int32) = nI 3 from rfl, nI_add]
  exact vp_in_nI (by omega) (by decide)
theorem vm_poke4 {a z : Int32} (ez : z = a / 4) (h : ¬ a < 0) (h2 : a ≤ 262124) : vp_in (z + 4) 65536 := by
  obtain ⟨j, hj, rfl⟩ := vm_of h h2
  rw [ez, i4, pk_div (by omega) (by decide) (by decide), nI_add]
  exact vp_in_nI (by omega) (by decide)
theorem vm_word {a : Int32} (h : ¬ a < 0) (h2 : ¬ 262144 ≤ a) : vp_in (a / 4) 65536 := by
  obtain ⟨j, hj, rfl⟩ := ii_of (n := 262144) rfl (by decide) h h2
  rw [i4, pk_div (by omega) (by decide) (by decide)]
  exact vp_in_nI (by omega) (by decide)
def fm_isSet (a0 : Int32) (a1 : Int32) : Int32 := if ((a0 >>> (a1 &&& 31)) &&& 1) = 1 then 1 else 0
set_option maxHeartbeats 4000000 in
set_option maxRecDepth 100000 in
theorem ctm_isSet (l : Launch) (sz : Nat) (a0 : Int32) (a1 : Int32) : MPi l yX1_isSet wsX1_isSet ({ frames := 0, cells := 0, slots := 0, locals := 0 }) [.int a0, .int a1] sz (fm_isSet a0 a1) := by
  refine Met.ofW (cc := cX1_isSet) (maxL := 2) (ret := (some .boolean)) (by decide) rfl ?_
  intro p e s m args below meth c s₁ B hml hv
  obtain ⟨rfl, hsz⟩ := hv
  have hx := B.exec
  have hb := B.bytes
  have hr := B.returns
  have hts := atoms_spec (ws := wsX1_isSet) B.pre
  have hown : s.vm.findClass RX1 = some m.cls := findClass_of_methodNamed B.named
  have hlocks := B.notSynchronized
  subst hsz
  generalize hAe : va_A [] s.heap.size = A
  have hA : ∀ q : Nat, s.heap.size ≤ q → A q := fun q h => by rw [← hAe]; exact Or.inr h
  have hS : va_S A s.heap s.heap [] := va_S.rf
  have hP : va_P (fun _ => m.cls, fun _ _ => 0) vwCl [] s.heap := fun k q h => by simp at h
  have hl := lv_entry ([.int a0, .int a1]) (n := 2) (Nat.le_of_ble_eq_true rfl)
  rw [lg_entry_eq]
  generalize (lg_sl ([.int a0, .int a1]) ++ List.replicate (2 - (lg_sl ([.int a0, .int a1])).length) Slot.unset).toArray = ls at hl ⊢
  have hl : lv_has ls 2 [(0, .int a0), (1, .int a1)] := hl
  refine lv_iload_n hx hb dX1_isSet_0 rfl (lv_at hl 0 rfl) ?_
  refine lv_iload_n hx hb dX1_isSet_1 rfl (lv_at hl 1 rfl) ?_
  refine lv_ishr hx hb dX1_isSet_2 ?_
  refine lv_iconst (v := 1) hx hb dX1_isSet_3 (by decide) ?_
  refine lv_iand hx hb dX1_isSet_4 ?_
  refine lv_iconst (v := 1) hx hb dX1_isSet_5 (by decide) ?_
  refine lv_icmp_ne (tgt := 13) hx hb dX1_isSet_6 (by decide) (fun c_6 => ?_) (fun c_6 => ?_)
  · skip
    refine lv_iconst (v := 0) hx hb dX1_isSet_13 (by decide) ?_
    exact W.zret (v := 0) (ty := .boolean) hx hb hr nb_0 (fun t ht hW => ⟨⟨_, (), rfl, by first | (rw [fm_isSet, if_neg c_6]; done) | (simp only [fm_isSet, if_neg c_6]; done) | (rw [fm_isSet, if_neg c_6] <;> rfl), trivial⟩, hS.F ht⟩) hS.2.2 dX1_isSet_14
  · skip
    refine lv_iconst (v := 1) hx hb dX1_isSet_9 (by decide) ?_
    refine lv_goto (tgt := 14) hx hb dX1_isSet_10 (by decide) ?_
    exact W.zret (v := 1) (ty := .boolean) hx hb hr nb_1 (fun t ht hW => ⟨⟨_, (), rfl, by first | (rw [fm_isSet, if_pos c_6]; done) | (simp only [fm_isSet, if_pos c_6]; done) | (rw [fm_isSet, if_pos c_6] <;> rfl), trivial⟩, hS.F ht⟩) hS.2.2 dX1_isSet_14
def fm_isLeaf (a0 : Int32) : Int32 := if (a0 &&& 14) = 0 then 0 else 1
set_option maxHeartbeats 4000000 in
set_option maxRecDepth 100000 in
theorem ctm_isLeaf (l : Launch) (sz : Nat) (a0 : Int32) : MPi l yX1_isLeaf wsX1_isLeaf ({ frames := 0, cells := 0, slots := 0, locals := 0 }) [.int a0] sz (fm_isLeaf a0) := by
  refine Met.ofW (cc := cX1_isLeaf) (maxL := 1) (ret := (some .boolean)) (by decide) rfl ?_
  intro p e s m args below meth c s₁ B hml hv
  obtain ⟨rfl, hsz⟩ := hv
  have hx := B.exec
  have hb := B.bytes
  have hr := B.returns
  have hts := atoms_spec (ws := wsX1_isLeaf) B.pre
  have hown : s.vm.findClass RX1 = some m.cls := findClass_of_methodNamed B.named
  have hlocks := B.notSynchronized
  subst hsz
  generalize hAe : va_A [] s.heap.size = A
  have hA : ∀ q : Nat, s.heap.size ≤ q → A q := fun q h => by rw [← hAe]; exact Or.inr h
  have hS : va_S A s.heap s.heap [] := va_S.rf
  have hP : va_P (fun _ => m.cls, fun _ _ => 0) vwCl [] s.heap := fun k q h => by simp at h
  have hl := lv_entry ([.int a0]) (n := 1) (Nat.le_of_ble_eq_true rfl)
  rw [lg_entry_eq]
  generalize (lg_sl ([.int a0]) ++ List.replicate (1 - (lg_sl ([.int a0])).length) Slot.unset).toArray = ls at hl ⊢
  have hl : lv_has ls 1 [(0, .int a0)] := hl
  refine lv_iload_n hx hb dX1_isLeaf_0 rfl (lv_at hl 0 rfl) ?_
  refine lv_bipush (v := 14) hx hb dX1_isLeaf_1 (by decide) ?_
  refine lv_iand hx hb dX1_isLeaf_3 ?_
  refine lv_if_eq (tgt := 11) hx hb dX1_isLeaf_4 (by decide) (fun c_4 => ?_) (fun c_4 => ?_)
  · skip
    refine lv_iconst (v := 0) hx hb dX1_isLeaf_11 (by decide) ?_
    exact W.zret (v := 0) (ty := .boolean) hx hb hr nb_0 (fun t ht hW => ⟨⟨_, (), rfl, by first | (rw [fm_isLeaf, if_pos c_4]; done) | (simp only [fm_isLeaf, if_pos c_4]; done) | (rw [fm_isLeaf, if_pos c_4] <;> rfl), trivial⟩, hS.F ht⟩) hS.2.2 dX1_isLeaf_12
  · skip
    refine lv_iconst (v := 1) hx hb dX1_isLeaf_7 (by decide) ?_
    refine lv_goto (tgt := 12) hx hb dX1_isLeaf_8 (by decide) ?_
    exact W.zret (v := 1) (ty := .boolean) hx hb hr nb_1 (fun t ht hW => ⟨⟨_, (), rfl, by first | (rw [fm_isLeaf, if_neg c_4]; done) | (simp only [fm_isLeaf, if_neg c_4]; done) | (rw [fm_isLeaf, if_neg c_4] <;> rfl), trivial⟩, hS.F ht⟩) hS.2.2 dX1_isLeaf_12
def fm_stands (a0 : Int32) : Int32 := if ((fm_isSet a0 0)) = 0 then 0 else if ((fm_isSet a0 2)) = 0 then 1 else if ((fm_isSet a0 1)) = 0 then 0 else 1
set_option maxHeartbeats 4000000 in
set_option maxRecDepth 100000 in
theorem ctm_stands (l : Launch) (sz : Nat) (a0 : Int32) : MPi l yX1_stands wsX1_stands ({ frames := 1, cells := 0, slots := 0, locals := 21 }) [.int a0] sz (fm_stands a0) := by
  refine Met.ofW (cc := cX1_stands) (maxL := 1) (ret := (some .boolean)) (by decide) rfl ?_
  intro p e s m args below meth c s₁ B hml hv
  obtain ⟨rfl, hsz⟩ := hv
  have hx := B.exec
  have hb := B.bytes
  have hr := B.returns
  have hts := atoms_spec (ws := wsX1_stands) B.pre
  have hown : s.vm.findClass RX1 = some m.cls := findClass_of_methodNamed B.named
  have hlocks := B.notSynchronized
  subst hsz
  generalize hAe : va_A [] s.heap.size = A
  have hA : ∀ q : Nat, s.heap.size ≤ q → A q := fun q h => by rw [← hAe]; exact Or.inr h
  have hS : va_S A s.heap s.heap [] := va_S.rf
  have hP : va_P (fun _ => m.cls, fun _ _ => 0) vwCl [] s.heap := fun k q h => by simp at h
  have hl := lv_entry ([.int a0]) (n := 1) (Nat.le_of_ble_eq_true rfl)
  rw [lg_entry_eq]
  generalize (lg_sl ([.int a0]) ++ List.replicate (1 - (lg_sl ([.int a0])).length) Slot.unset).toArray = ls at hl ⊢
  have hl : lv_has ls 1 [(0, .int a0)] := hl
  refine lv_iload_n hx hb dX1_stands_0 rfl (lv_at hl 0 rfl) ?_
  refine lv_iconst (v := 0) hx hb dX1_stands_1 (by decide) ?_
  refine cs_i (va_runS (As := [.int a0, .int 0]) (rest := []) ⟨hx, hb, hml, hown, hts⟩ (ctm_isSet l s.heap.size a0 0) (va_cwS 2 hts gX1_stands_X1_isSet rfl rfl rfl (by decide +kernel) ⟨Nat.le_of_ble_eq_true rfl, Nat.le_of_ble_eq_true rfl⟩) ⟨fun a U g mk q => q, fun U hU hW => ⟨rfl, congrArg Array.size hU⟩⟩ rfl rfl hl.1 rfl (lv_room (Nat.le_of_ble_eq_true rfl)) dX1_stands_2 ⟨Nat.zero_le _, Nat.zero_le _⟩) hA hP hS (fun H locs hP hS => ?_)
  refine lv_if_eq (tgt := 28) hx hb dX1_stands_5 (by decide) (fun c_5 => ?_) (fun c_5 => ?_)
  · skip
    refine lv_iconst (v := 0) hx hb dX1_stands_28 (by decide) ?_
    exact W.zret (v := 0) (ty := .boolean) hx hb hr nb_0 (fun t ht hW => ⟨⟨_, (), rfl, by first | (rw [fm_stands, if_pos c_5]; done) | (simp only [fm_stands, if_pos c_5]; done) | (rw [fm_stands, if_pos c_5] <;> rfl), trivial⟩, hS.F ht⟩) hS.2.2 dX1_stands_29
  · skip
    refine lv_iload_n hx hb dX1_stands_8 rfl (lv_at hl 0 rfl) ?_
    refine lv_iconst (v := 2) hx hb dX1_stands_9 (by decide) ?_
    refine cs_i (va_runS (As := [.int a0, .int 2]) (rest := []) ⟨hx, hb, hml, hown, hts⟩ (ctm_isSet l H.size a0 2) (va_cwS 2 hts gX1_stands_X1_isSet rfl rfl rfl (by decide +kernel) ⟨Nat.le_of_ble_eq_true rfl, Nat.le_of_ble_eq_true rfl⟩) ⟨fun a U g mk q => q, fun U hU hW => ⟨rfl, congrArg Array.size hU⟩⟩ rfl rfl hl.1 rfl (lv_room (Nat.le_of_ble_eq_true rfl)) dX1_stands_10 ⟨Nat.zero_le _, Nat.zero_le _⟩) hA hP hS (fun H locs hP hS => ?_)
    refine lv_if_eq (tgt := 24) hx hb dX1_stands_13 (by decide) (fun c_13 => ?_) (fun c_13 => ?_)
    · skip
      refine lv_iconst (v := 1) hx hb dX1_stands_24 (by decide) ?_
      refine lv_goto (tgt := 29) hx hb dX1_stands_25 (by decide) ?_
      exact W.zret (v := 1) (ty := .boolean) hx hb hr nb_1 (fun t ht hW => ⟨⟨_, (), rfl, by first | (rw [fm_stands, if_neg c_5, if_pos c_13]; done) | (simp only [fm_stands, if_neg c_5, if_pos c_13]; done) | (rw [fm_stands, if_neg c_5, if_pos c_13] <;> rfl), trivial⟩, hS.F ht⟩) hS.2.2 dX1_stands_29
    · skip
      refine lv_iload_n hx hb dX1_stands_16 rfl (lv_at hl 0 rfl) ?_
      refine lv_iconst (v := 1) hx hb dX1_stands_17 (by decide) ?_
      refine cs_i (va_runS (As := [.int a0, .int 1]) (rest := []) ⟨hx, hb, hml, hown, hts⟩ (ctm_isSet l H.size a0 1) (va_cwS 2 hts gX1_stands_X1_isSet rfl rfl rfl (by decide +kernel) ⟨Nat.le_of_ble_eq_true rfl, Nat.le_of_ble_eq_true rfl⟩) ⟨fun a U g mk q => q, fun U hU hW => ⟨rfl, congrArg Array.size hU⟩⟩ rfl rfl hl.1 rfl (lv_room (Nat.le_of_ble_eq_true rfl)) dX1_stands_18 ⟨Nat.zero_le _, Nat.zero_le _⟩) hA hP hS (fun H locs hP hS => ?_)
      refine lv_if_eq (tgt := 28) hx hb dX1_stands_21 (by decide) (fun c_21 => ?_) (fun c_21 => ?_)
      · skip
        refine lv_iconst (v := 0) hx hb dX1_stands_28 (by decide) ?_
        exact W.zret (v := 0) (ty := .boolean) hx hb hr nb_0 (fun t ht hW => ⟨⟨_, (), rfl, by first | (rw [fm_stands, if_neg c_5, if_neg c_13, if_pos c_21]; done) | (simp only [fm_stands, if_neg c_5, if_neg c_13, if_pos c_21]; done) | (rw [fm_stands, if_neg c_5, if_neg c_13, if_pos c_21] <;> rfl), trivial⟩, hS.F ht⟩) hS.2.2 dX1_stands_29
      · skip
        refine lv_iconst (v := 1) hx hb dX1_stands_24 (by decide) ?_
        refine lv_goto (tgt := 29) hx hb dX1_stands_25 (by decide) ?_
        exact W.zret (v := 1) (ty := .boolean) hx hb hr nb_1 (fun t ht hW => ⟨⟨_, (), rfl, by first | (rw [fm_stands, if_neg c_5, if_neg c_13, if_neg c_21]; done) | (simp only [fm_stands, if_neg c_5, if_neg c_13, if_neg c_21]; done) | (rw [fm_stands, if_neg c_5, if_neg c_13, if_neg c_21] <;> rfl), trivial⟩, hS.F ht⟩) hS.2.2 dX1_stands_29
theorem ob_isSet (x y : Int32) : fm_isSet x y = 0 ∨ fm_isSet x y = 1 := by
  unfold fm_isSet
  split
  · exact Or.inr rfl
  · exact Or.inl rfl
def fm_allows (a0 : Int32) (a1 : Int32) (a2 : Int32) : Int32 := if ((if a1 = 0 then (fm_isSet a0 3) else if a1 = 3 then (fm_isSet a0 3) else if a1 = 1 then if ((fm_isSet a0 1)) = 0 then if a2 = 0 then 0 else if ((fm_isSet a0 3)) = 0 then 0 else 1 else 1 else (fm_isSet a0 2) : Int32)) = 0 then 0 else if ((fm_isSet a0 6)) = 0 then 0 else if a1 = 2 then if ((fm_isSet a0 7)) = 0 then 0 else 1 else 1
set_option maxHeartbeats 4000000 in
set_option maxRecDepth 100000 in
theorem ctm_allows (l : Launch) (sz : Nat) (a0 : Int32) (a1 : Int32) (a2 : Int32) : MPi l yX1_allows wsX1_allows ({ frames := 1, cells := 0, slots := 0, locals := 21 }) [.int a0, .int a1, .int a2] sz (fm_allows a0 a1 a2) := by
  refine Met.ofW (cc := cX1_allows) (maxL := 6) (ret := (some .boolean)) (by decide) rfl ?_
  intro p e s m args below meth c s₁ B hml hv
  obtain ⟨rfl, hsz⟩ := hv
  have hx := B.exec
  have hb := B.bytes
  have hr := B.returns
  have hts := atoms_spec (ws := wsX1_allows) B.pre
  have hown : s.vm.findClass RX1 = some m.cls := findClass_of_methodNamed B.named
  have hlocks := B.notSynchronized
  subst hsz
  generalize hAe : va_A [] s.heap.size = A
  have hA : ∀ q : Nat, s.heap.size ≤ q → A q := fun q h => by rw [← hAe]; exact Or.inr h
  have hS : va_S A s.heap s.heap [] := va_S.rf
  have hP : va_P (fun _ => m.cls, fun _ _ => 0) vwCl [] s.heap := fun k q h => by simp at h
  have hl := lv_entry ([.int a0, .int a1, .int a2]) (n := 6) (Nat.le_of_ble_eq_true rfl)
  rw [lg_entry_eq]
  generalize (lg_sl ([.int a0, .int a1, .int a2]) ++ List.replicate (6 - (lg_sl ([.int a0, .int a1, .int a2])).length) Slot.unset).toArray = ls at hl ⊢
  have hl : lv_has ls 6 [(0, .int a0), (1, .int a1), (2, .int a2)] := hl
  refine lv_iload_n hx hb dX1_allows_0 rfl (lv_at hl 0 rfl) ?_
  refine lv_iconst (v := 1) hx hb dX1_allows_1 (by decide) ?_
  refine cs_i (va_runS (As := [.int a0, .int 1]) (rest := []) ⟨hx, hb, hml, hown, hts⟩ (ctm_isSet l s.heap.size a0 1) (va_cwS 2 hts gX1_allows_X1_isSet rfl rfl rfl (by decide +kernel) ⟨Nat.le_of_ble_eq_true rfl, Nat.le_of_ble_eq_true rfl⟩) ⟨fun a U g mk q => q, fun U hU hW => ⟨rfl, congrArg Array.size hU⟩⟩ rfl rfl hl.1 rfl (lv_room (Nat.le_of_ble_eq_true rfl)) dX1_allows_2 ⟨Nat.zero_le _, Nat.zero_le _⟩) hA hP hS (fun H locs hP hS => ?_)
  refine lv_topi (fun z_1 ez_1 => ?_)
  refine lv_istore_n (lv' := [(3, .int z_1), (0, .int a0), (1, .int a1), (2, .int a2)]) hx hb dX1_allows_5 rfl hl (by decide) rfl (fun ls hl => ?_)
  refine lv_iload_n hx hb dX1_allows_6 rfl (lv_at hl 1 rfl) ?_
  refine lv_iconst (v := 3) hx hb dX1_allows_7 (by decide) ?_
  refine cs_i (va_runS (As := [.int a0, .int 3]) (rest := []) ⟨hx, hb, hml, hown, hts⟩ (ctm_isSet l H.size a0 3) (va_cwS 2 hts gX1_allows_X1_isSet rfl rfl rfl (by decide +kernel) ⟨Nat.le_of_ble_eq_true rfl, Nat.le_of_ble_eq_true rfl⟩) ⟨fun a U g mk q => q, fun U hU hW => ⟨rfl, congrArg Array.size hU⟩⟩ rfl rfl hl.1 rfl (lv_room (Nat.le_of_ble_eq_true rfl)) dX1_allows_8 ⟨Nat.zero_le _, Nat.zero_le _⟩) hA hP hS (fun H locs hP hS => ?_)
  refine lv_topi (fun z_2 ez_2 => ?_)
  refine lv_istore (lv' := [(4, .int z_2), (3, .int z_1), (0, .int a0), (1, .int a1), (2, .int a2)]) hx hb dX1_allows_11 hl (by decide) rfl (fun ls hl => ?_)
  refine lv_iload_n hx hb dX1_allows_13 rfl (lv_at hl 3 rfl) ?_
  refine lj_i (j := 58) (z0 := if a1 = 0 then z_2 else if a1 = 3 then z_2 else if a1 = 1 then if z_1 = 0 then if a2 = 0 then 0 else if z_2 = 0 then 0 else 1 else 1 else (fm_isSet a0 2)) (rest := []) hP hS (fun H locs hP hS z_3 ez_3 => ?_) (fun J58_14 => ?_)
  · skip
    refine lv_istore (lv' := [(5, .int z_3), (4, .int z_2), (3, .int z_1), (0, .int a0), (1, .int a1), (2, .int a2)]) hx hb dX1_allows_58 hl (by decide) rfl (fun ls hl => ?_)
    refine lv_iload hx hb dX1_allows_60 (lv_at hl 0 rfl) ?_
    refine lv_if_eq (tgt := 92) hx hb dX1_allows_62 (by decide) (fun c_62 => ?_) (fun c_62 => ?_)
    · skip
      refine lv_iconst (v := 0) hx hb dX1_allows_92 (by decide) ?_
      exact W.zret (v := 0) (ty := .boolean) hx hb hr nb_0 (fun t ht hW => ⟨⟨_, (), rfl, by subst ez_3; subst ez_2; subst ez_1; first | (rw [fm_allows, if_pos c_62]; done) | (simp only [fm_allows, if_pos c_62]; done) | (rw [fm_allows, if_pos c_62] <;> rfl), trivial⟩, hS.F ht⟩) hS.2.2 dX1_allows_93
    · skip
      refine lv_iload_n hx hb dX1_allows_65 rfl (lv_at hl 3 rfl) ?_
      refine lv_bipush (v := 6) hx hb dX1_allows_66 (by decide) ?_
      refine cs_i (va_runS (As := [.int a0, .int 6]) (rest := []) ⟨hx, hb, hml, hown, hts⟩ (ctm_isSet l H.size a0 6) (va_cwS 2 hts gX1_allows_X1_isSet rfl rfl rfl (by decide +kernel) ⟨Nat.le_of_ble_eq_true rfl, Nat.le_of_ble_eq_true rfl⟩) ⟨fun a U g mk q => q, fun U hU hW => ⟨rfl, congrArg Array.size hU⟩⟩ rfl rfl hl.1 rfl (lv_room (Nat.le_of_ble_eq_true rfl)) dX1_allows_68 ⟨Nat.zero_le _, Nat.zero_le _⟩) hA hP hS (fun H locs hP hS => ?_)
      refine lv_if_eq (tgt := 92) hx hb dX1_allows_71 (by decide) (fun c_71 => ?_) (fun c_71 => ?_)
      · skip
        refine lv_iconst (v := 0) hx hb dX1_allows_92 (by decide) ?_
        exact W.zret (v := 0) (ty := .boolean) hx hb hr nb_0 (fun t ht hW => ⟨⟨_, (), rfl, by subst ez_3; subst ez_2; subst ez_1; first | (rw [fm_allows, if_neg c_62, if_pos c_71]; done) | (simp only [fm_allows, if_neg c_62, if_pos c_71]; done) | (rw [fm_allows, if_neg c_62, if_pos c_71] <;> rfl), trivial⟩, hS.F ht⟩) hS.2.2 dX1_allows_93
      · skip
        refine lv_iload_n hx hb dX1_allows_74 rfl (lv_at hl 4 rfl) ?_
        refine lv_iconst (v := 2) hx hb dX1_allows_75 (by decide) ?_
        refine lv_icmp_ne (tgt := 88) hx hb dX1_allows_76 (by decide) (fun c_76 => ?_) (fun c_76 => ?_)
        · skip
          refine lv_iconst (v := 1) hx hb dX1_allows_88 (by decide) ?_
          refine lv_goto (tgt := 93) hx hb dX1_allows_89 (by decide) ?_
          exact W.zret (v := 1) (ty := .boolean) hx hb hr nb_1 (fun t ht hW => ⟨⟨_, (), rfl, by subst ez_3; subst ez_2; subst ez_1; first | (rw [fm_allows, if_neg c_62, if_neg c_71, if_neg c_76]; done) | (simp only [fm_allows, if_neg c_62, if_neg c_71, if_neg c_76]; done) | (rw [fm_allows, if_neg c_62, if_neg c_71, if_neg c_76] <;> rfl), trivial⟩, hS.F ht⟩) hS.2.2 dX1_allows_93
        · skip
          refine lv_iload_n hx hb dX1_allows_79 rfl (lv_at hl 3 rfl) ?_
          refine lv_bipush (v := 7) hx hb dX1_allows_80 (by decide) ?_
          refine cs_i (va_runS (As := [.int a0, .int 7]) (rest := []) ⟨hx, hb, hml, hown, hts⟩ (ctm_isSet l H.size a0 7) (va_cwS 2 hts gX1_allows_X1_isSet rfl rfl rfl (by decide +kernel) ⟨Nat.le_of_ble_eq_true rfl, Nat.le_of_ble_eq_true rfl⟩) ⟨fun a U g mk q => q, fun U hU hW => ⟨rfl, congrArg Array.size hU⟩⟩ rfl rfl hl.1 rfl (lv_room (Nat.le_of_ble_eq_true rfl)) dX1_allows_82 ⟨Nat.zero_le _, Nat.zero_le _⟩) hA hP hS (fun H locs hP hS => ?_)
          refine lv_if_eq (tgt := 92) hx hb dX1_allows_85 (by decide) (fun c_85 => ?_) (fun c_85 => ?_)
          · skip
            refine lv_iconst (v := 0) hx hb dX1_allows_92 (by decide) ?_
            exact W.zret (v := 0) (ty := .boolean) hx hb hr nb_0 (fun t ht hW => ⟨⟨_, (), rfl, by subst ez_3; subst ez_2; subst ez_1; first | (rw [fm_allows, if_neg c_62, if_neg c_71, if_pos c_76, if_pos c_85]; done) | (simp only [fm_allows, if_neg c_62, if_neg c_71, if_pos c_76, if_pos c_85]; done) | (rw [fm_allows, if_neg c_62, if_neg c_71, if_pos c_76, if_pos c_85] <;> rfl), trivial⟩, hS.F ht⟩) hS.2.2 dX1_allows_93
          · skip
            refine lv_iconst (v := 1) hx hb dX1_allows_88 (by decide) ?_
            refine lv_goto (tgt := 93) hx hb dX1_allows_89 (by decide) ?_
            exact W.zret (v := 1) (ty := .boolean) hx hb hr nb_1 (fun t ht hW => ⟨⟨_, (), rfl, by subst ez_3; subst ez_2; subst ez_1; first | (rw [fm_allows, if_neg c_62, if_neg c_71, if_pos c_76, if_neg c_85]; done) | (simp only [fm_allows, if_neg c_62, if_neg c_71, if_pos c_76, if_neg c_85]; done) | (rw [fm_allows, if_neg c_62, if_neg c_71, if_pos c_76, if_neg c_85] <;> rfl), trivial⟩, hS.F ht⟩) hS.2.2 dX1_allows_93
  · skip
    refine lv_if_eq (tgt := 22) hx hb dX1_allows_14 (by decide) (fun c_14 => ?_) (fun c_14 => ?_)
    · skip
      refine lv_iload hx hb dX1_allows_22 (lv_at hl 0 rfl) ?_
      refine lv_goto (tgt := 58) hx hb dX1_allows_24 (by decide) ?_
      exact W.eq (by rw [if_pos c_14] <;> rfl) (J58_14 _ _ hP hS)
    · skip
      refine lv_iload_n hx hb dX1_allows_17 rfl (lv_at hl 3 rfl) ?_
      refine lv_iconst (v := 3) hx hb dX1_allows_18 (by decide) ?_
      refine lv_icmp_ne (tgt := 27) hx hb dX1_allows_19 (by decide) (fun c_19 => ?_) (fun c_19 => ?_)
      · skip
        refine lv_iload_n hx hb dX1_allows_27 rfl (lv_at hl 3 rfl) ?_
        refine lv_iconst (v := 1) hx hb dX1_allows_28 (by decide) ?_
        refine lv_icmp_ne (tgt := 53) hx hb dX1_allows_29 (by decide) (fun c_29 => ?_) (fun c_29 => ?_)
        · skip
          refine lv_iload_n hx hb dX1_allows_53 rfl (lv_at hl 2 rfl) ?_
          refine lv_iconst (v := 2) hx hb dX1_allows_54 (by decide) ?_
          refine cs_i (va_runS (As := [.int a0, .int 2]) (rest := []) ⟨hx, hb, hml, hown, hts⟩ (ctm_isSet l H.size a0 2) (va_cwS 2 hts gX1_allows_X1_isSet rfl rfl rfl (by decide +kernel) ⟨Nat.le_of_ble_eq_true rfl, Nat.le_of_ble_eq_true rfl⟩) ⟨fun a U g mk q => q, fun U hU hW => ⟨rfl, congrArg Array.size hU⟩⟩ rfl rfl hl.1 rfl (lv_room (Nat.le_of_ble_eq_true rfl)) dX1_allows_55 ⟨Nat.zero_le _, Nat.zero_le _⟩) hA hP hS (fun H locs hP hS => ?_)
          exact W.eq (by rw [if_neg c_14, if_neg c_19, if_neg c_29] <;> rfl) (J58_14 _ _ hP hS)
        · skip
          refine lv_iload_n hx hb dX1_allows_32 rfl (lv_at hl 1 rfl) ?_
          refine lv_if_ne (tgt := 45) hx hb dX1_allows_33 (by decide) (fun c_33 => ?_) (fun c_33 => ?_)
          · skip
            refine lv_iconst (v := 1) hx hb dX1_allows_45 (by decide) ?_
            refine lv_goto (tgt := 58) hx hb dX1_allows_46 (by decide) ?_
            exact W.eq (by rw [if_neg c_14, if_neg c_19, if_pos c_29, if_neg c_33] <;> rfl) (J58_14 _ _ hP hS)
          · skip
            refine lv_iload_n hx hb dX1_allows_36 rfl (lv_at hl 4 rfl) ?_
            refine lv_if_eq (tgt := 49) hx hb dX1_allows_37 (by decide) (fun c_37 => ?_) (fun c_37 => ?_)
            · skip
              refine lv_iconst (v := 0) hx hb dX1_allows_49 (by decide) ?_
              refine lv_goto (tgt := 58) hx hb dX1_allows_50 (by decide) ?_
              exact W.eq (by rw [if_neg c_14, if_neg c_19, if_pos c_29, if_pos c_33, if_pos c_37] <;> rfl) (J58_14 _ _ hP hS)
            · skip
              refine lv_iload hx hb dX1_allows_40 (lv_at hl 0 rfl) ?_
              refine lv_if_eq (tgt := 49) hx hb dX1_allows_42 (by decide) (fun c_42 => ?_) (fun c_42 => ?_)
              · skip
                refine lv_iconst (v := 0) hx hb dX1_allows_49 (by decide) ?_
                refine lv_goto (tgt := 58) hx hb dX1_allows_50 (by decide) ?_
                exact W.eq (by rw [if_neg c_14, if_neg c_19, if_pos c_29, if_pos c_33, if_neg c_37, if_pos c_42] <;> rfl) (J58_14 _ _ hP hS)
              · skip
                refine lv_iconst (v := 1) hx hb dX1_allows_45 (by decide) ?_
                refine lv_goto (tgt := 58) hx hb dX1_allows_46 (by decide) ?_
                exact W.eq (by rw [if_neg c_14, if_neg c_19, if_pos c_29, if_pos c_33, if_neg c_37, if_neg c_42] <;> rfl) (J58_14 _ _ hP hS)
      · skip
        refine lv_iload hx hb dX1_allows_22 (lv_at hl 0 rfl) ?_
        refine lv_goto (tgt := 58) hx hb dX1_allows_24 (by decide) ?_
        exact W.eq (by rw [if_neg c_14, if_pos c_19] <;> rfl) (J58_14 _ _ hP hS)
def fm_result (a0 : Int32) (a1 : Int32) (a2 : Int64) : Int64 := (jlshl ((if a1 = 0 then (jiushr a0 10).toInt64 else (((jiushr a0 10).toInt64) &&& ((-1024))) ||| ((jlshr a2 12) &&& 1023) : Int64)) 12) ||| (a2 &&& 4095)
set_option maxHeartbeats 4000000 in
set_option maxRecDepth 100000 in
theorem ctm_result (l : Launch) (sz : Nat) (a0 : Int32) (a1 : Int32) (a2 : Int64) : MPl l yX1_result wsX1_result ({ frames := 0, cells := 0, slots := 0, locals := 0 }) [.int a0, .int a1, .long a2] sz (fm_result a0 a1 a2) := by
  refine Met.ofW (cc := cX1_result) (maxL := 6) (ret := (some .long)) (by decide) rfl ?_
  intro p e s m args below meth c s₁ B hml hv
  obtain ⟨rfl, hsz⟩ := hv
  have hx := B.exec
  have hb := B.bytes
  have hr := B.returns
  have hts := atoms_spec (ws := wsX1_result) B.pre
  have hown : s.vm.findClass RX1 = some m.cls := findClass_of_methodNamed B.named
  have hlocks := B.notSynchronized
  subst hsz
  generalize hAe : va_A [] s.heap.size = A
  have hA : ∀ q : Nat, s.heap.size ≤ q → A q := fun q h => by rw [← hAe]; exact Or.inr h
  have hS : va_S A s.heap s.heap [] := va_S.rf
  have hP : va_P (fun _ => m.cls, fun _ _ => 0) vwCl [] s.heap := fun k q h => by simp at h
  have hl := lv_entry ([.int a0, .int a1, .long a2]) (n := 6) (Nat.le_of_ble_eq_true rfl)
  rw [lg_entry_eq]
  generalize (lg_sl ([.int a0, .int a1, .long a2]) ++ List.replicate (6 - (lg_sl ([.int a0, .int a1, .long a2])).length) Slot.unset).toArray = ls at hl ⊢
  have hl : lv_has ls 6 [(0, .int a0), (1, .int a1), (2, .long a2)] := hl
  refine lv_iload_n hx hb dX1_result_0 rfl (lv_at hl 0 rfl) ?_
  refine lv_bipush (v := 10) hx hb dX1_result_1 (by decide) ?_
  refine lv_iushr (v := jiushr a0 10) hx hb dX1_result_3 rfl ?_
  refine lv_i2l (v := (jiushr a0 10).toInt64) hx hb dX1_result_4 rfl ?_
  refine lv_topl (fun z_1 ez_1 => ?_)
  refine lv_lstore (lv' := [(4, .long z_1), (0, .int a0), (1, .int a1), (2, .long a2)]) hx hb dX1_result_5 hl (by decide) rfl (fun ls hl => ?_)
  refine lv_iload_n hx hb dX1_result_7 rfl (lv_at hl 2 rfl) ?_
  refine lj_l (j := 31) (z0 := if a1 = 0 then z_1 else (z_1 &&& ((-1024))) ||| ((jlshr a2 12) &&& 1023)) (rest := []) hP hS (fun H locs hP hS z_2 ez_2 => ?_) (fun J31_8 => ?_)
  · skip
    refine lv_lstore (lv' := [(4, .long z_2), (0, .int a0), (1, .int a1), (2, .long a2)]) hx hb dX1_result_31 hl (by decide) rfl (fun ls hl => ?_)
    refine lv_lload hx hb dX1_result_33 (lv_at hl 0 rfl) ?_
    refine lv_bipush (v := 12) hx hb dX1_result_35 (by decide) ?_
    refine lv_lshl (v := jlshl z_2 12) hx hb dX1_result_37 rfl ?_
    refine lv_lload_n hx hb dX1_result_38 rfl (lv_at hl 3 rfl) ?_
    refine lv_ldc2 hx hb hown (hts (.constantLong RX1 46 4095) (by decide +kernel)) dX1_result_39 ?_
    refine lv_land hx hb dX1_result_42 ?_
    refine lv_lor hx hb dX1_result_43 ?_
    exact W.lret (v := (jlshl z_2 12) ||| (a2 &&& 4095)) hx hb hr (fun t ht hW => ⟨⟨_, (), rfl, by subst ez_2; subst ez_1; rfl, trivial⟩, hS.F ht⟩) hS.2.2 dX1_result_44
  · skip
    refine lv_if_eq (tgt := 29) hx hb dX1_result_8 (by decide) (fun c_8 => ?_) (fun c_8 => ?_)
    · skip
      refine lv_lload hx hb dX1_result_29 (lv_at hl 0 rfl) ?_
      exact W.eq (by rw [if_pos c_8] <;> rfl) (J31_8 _ _ hP hS)
    · skip
      refine lv_lload hx hb dX1_result_11 (lv_at hl 0 rfl) ?_
      refine lv_ldc2 hx hb hown (hts (.constantLong RX1 42 (-1024)) (by decide +kernel)) dX1_result_13 ?_
      refine lv_land hx hb dX1_result_16 ?_
      refine lv_lload_n hx hb dX1_result_17 rfl (lv_at hl 3 rfl) ?_
      refine lv_bipush (v := 12) hx hb dX1_result_18 (by decide) ?_
      refine lv_lshr (v := jlshr a2 12) hx hb dX1_result_20 rfl ?_
      refine lv_ldc2 hx hb hown (hts (.constantLong RX1 44 1023) (by decide +kernel)) dX1_result_21 ?_
      refine lv_land hx hb dX1_result_24 ?_
      refine lv_lor hx hb dX1_result_25 ?_
      refine lv_goto (tgt := 31) hx hb dX1_result_26 (by decide) ?_
      exact W.eq (by rw [if_neg c_8] <;> rfl) (J31_8 _ _ hP hS)
def fm_isKind (a0 : Int32) (a1 : Int32) : Int32 := if a0 < 0 then 0 else if 4 ≤ a0 then 0 else if a1 < 0 then 0 else if ((if 2 ≤ a0 then 3 else 2 : Int32)) < a1 then 0 else 1
set_option maxHeartbeats 4000000 in
set_option maxRecDepth 100000 in
theorem ctm_isKind (l : Launch) (sz : Nat) (a0 : Int32) (a1 : Int32) : MPi l yX1_isKind wsX1_isKind ({ frames := 0, cells := 0, slots := 0, locals := 0 }) [.int a0, .int a1] sz (fm_isKind a0 a1) := by
  refine Met.ofW (cc := cX1_isKind) (maxL := 2) (ret := (some .boolean)) (by decide) rfl ?_
  intro p e s m args below meth c s₁ B hml hv
  obtain ⟨rfl, hsz⟩ := hv
  have hx := B.exec
  have hb := B.bytes
  have hr := B.returns
  have hts := atoms_spec (ws := wsX1_isKind) B.pre
  have hown : s.vm.findClass RX1 = some m.cls := findClass_of_methodNamed B.named
  have hlocks := B.notSynchronized
  subst hsz
  generalize hAe : va_A [] s.heap.size = A
  have hA : ∀ q : Nat, s.heap.size ≤ q → A q := fun q h => by rw [← hAe]; exact Or.inr h
  have hS : va_S A s.heap s.heap [] := va_S.rf
  have hP : va_P (fun _ => m.cls, fun _ _ => 0) vwCl [] s.heap := fun k q h => by simp at h
  have hl := lv_entry ([.int a0, .int a1]) (n := 2) (Nat.le_of_ble_eq_true rfl)
  rw [lg_entry_eq]
  generalize (lg_sl ([.int a0, .int a1]) ++ List.replicate (2 - (lg_sl ([.int a0, .int a1])).length) Slot.unset).toArray = ls at hl ⊢
  have hl : lv_has ls 2 [(0, .int a0), (1, .int a1)] := hl
  refine lv_iload_n hx hb dX1_isKind_0 rfl (lv_at hl 0 rfl) ?_
  refine lv_if_lt (tgt := 31) hx hb dX1_isKind_1 (by decide) (fun c_1 => ?_) (fun c_1 => ?_)
  · skip
    refine lv_iconst (v := 0) hx hb dX1_isKind_31 (by decide) ?_
    exact W.zret (v := 0) (ty := .boolean) hx hb hr nb_0 (fun t ht hW => ⟨⟨_, (), rfl, by first | (rw [fm_isKind, if_pos c_1]; done) | (simp only [fm_isKind, if_pos c_1]; done) | (rw [fm_isKind, if_pos c_1] <;> rfl), trivial⟩, hS.F ht⟩) hS.2.2 dX1_isKind_32
  · skip
    refine lv_iload_n hx hb dX1_isKind_4 rfl (lv_at hl 0 rfl) ?_
    refine lv_iconst (v := 4) hx hb dX1_isKind_5 (by decide) ?_
    refine lv_icmp_ge (tgt := 31) hx hb dX1_isKind_6 (by decide) (fun c_6 => ?_) (fun c_6 => ?_)
    · skip
      refine lv_iconst (v := 0) hx hb dX1_isKind_31 (by decide) ?_
      exact W.zret (v := 0) (ty := .boolean) hx hb hr nb_0 (fun t ht hW => ⟨⟨_, (), rfl, by first | (rw [fm_isKind, if_neg c_1, if_pos c_6]; done) | (simp only [fm_isKind, if_neg c_1, if_pos c_6]; done) | (rw [fm_isKind, if_neg c_1, if_pos c_6] <;> rfl), trivial⟩, hS.F ht⟩) hS.2.2 dX1_isKind_32
    · skip
      refine lv_iload_n hx hb dX1_isKind_9 rfl (lv_at hl 1 rfl) ?_
      refine lv_if_lt (tgt := 31) hx hb dX1_isKind_10 (by decide) (fun c_10 => ?_) (fun c_10 => ?_)
      · skip
        refine lv_iconst (v := 0) hx hb dX1_isKind_31 (by decide) ?_
        exact W.zret (v := 0) (ty := .boolean) hx hb hr nb_0 (fun t ht hW => ⟨⟨_, (), rfl, by first | (rw [fm_isKind, if_neg c_1, if_neg c_6, if_pos c_10]; done) | (simp only [fm_isKind, if_neg c_1, if_neg c_6, if_pos c_10]; done) | (rw [fm_isKind, if_neg c_1, if_neg c_6, if_pos c_10] <;> rfl), trivial⟩, hS.F ht⟩) hS.2.2 dX1_isKind_32
      · skip
        refine lv_iload_n hx hb dX1_isKind_13 rfl (lv_at hl 1 rfl) ?_
        refine lv_iload_n hx hb dX1_isKind_14 rfl (lv_at hl 0 rfl) ?_
        refine lv_iconst (v := 2) hx hb dX1_isKind_15 (by decide) ?_
        refine lj_i (j := 24) (z0 := if 2 ≤ a0 then 3 else 2) (rest := [.int a1]) hP hS (fun H locs hP hS z_1 ez_1 => ?_) (fun J24_16 => ?_)
        · skip
          refine lv_icmp_gt (tgt := 31) hx hb dX1_isKind_24 (by decide) (fun c_24 => ?_) (fun c_24 => ?_)
          · skip
            refine lv_iconst (v := 0) hx hb dX1_isKind_31 (by decide) ?_
            exact W.zret (v := 0) (ty := .boolean) hx hb hr nb_0 (fun t ht hW => ⟨⟨_, (), rfl, by subst ez_1; first | (rw [fm_isKind, if_neg c_1, if_neg c_6, if_neg c_10, if_pos c_24]; done) | (simp only [fm_isKind, if_neg c_1, if_neg c_6, if_neg c_10, if_pos c_24]; done) | (rw [fm_isKind, if_neg c_1, if_neg c_6, if_neg c_10, if_pos c_24] <;> rfl), trivial⟩, hS.F ht⟩) hS.2.2 dX1_isKind_32
          · skip
            refine lv_iconst (v := 1) hx hb dX1_isKind_27 (by decide) ?_
            refine lv_goto (tgt := 32) hx hb dX1_isKind_28 (by decide) ?_
            exact W.zret (v := 1) (ty := .boolean) hx hb hr nb_1 (fun t ht hW => ⟨⟨_, (), rfl, by subst ez_1; first | (rw [fm_isKind, if_neg c_1, if_neg c_6, if_neg c_10, if_neg c_24]; done) | (simp only [fm_isKind, if_neg c_1, if_neg c_6, if_neg c_10, if_neg c_24]; done) | (rw [fm_isKind, if_neg c_1, if_neg c_6, if_neg c_10, if_neg c_24] <;> rfl), trivial⟩, hS.F ht⟩) hS.2.2 dX1_isKind_32
        · skip
          refine lv_icmp_ge (tgt := 23) hx hb dX1_isKind_16 (by decide) (fun c_16 => ?_) (fun c_16 => ?_)
          · skip
            refine lv_iconst (v := 3) hx hb dX1_isKind_23 (by decide) ?_
            exact W.eq (by rw [if_pos c_16] <;> rfl) (J24_16 _ _ hP hS)
          · skip
            refine lv_iconst (v := 2) hx hb dX1_isKind_19 (by decide) ?_
            refine lv_goto (tgt := 24) hx hb dX1_isKind_20 (by decide) ?_
            exact W.eq (by rw [if_neg c_16] <;> rfl) (J24_16 _ _ hP hS)
def fm_has (v_rights : Int32) (a0 : Int32) : Int32 := if ((v_rights >>> (a0 &&& 31)) &&& 1) = 1 then 1 else 0
set_option maxHeartbeats 4000000 in
set_option maxRecDepth 100000 in
theorem ctm_has (l : Launch) (dC : Nat → ClassId) (dI : Nat → Nat → Nat) (h0 : Nat) (q_memory : Nat) (k_memory : ClassId) (sz : Nat) (v_atp : Int32) (v_vsAtp : Int32) (v_hgatp : Int32) (v_rights : Int32) (v_code : Int32) (v_found : Int64) (v_wanted : Int64) (v_ofEntry : Int32) (m_memory : Nat → Int32) (a0 : Int32) : MRi l yX1_has wsX1_has ({ frames := 0, cells := 0, slots := 0, locals := 0 }) (dC, dI) vwCl [(k_memory, .int)] [.ref h0, .int a0] sz (wm h0 q_memory k_memory v_atp v_vsAtp v_hgatp v_rights v_code v_found v_wanted v_ofEntry m_memory) (fm_has v_rights a0) := by
  refine Met.ofW (cc := cX1_has) (maxL := 2) (ret := (some .boolean)) (by decide) rfl ?_
  intro p e s m args below meth c s₁ B hml hv
  obtain ⟨rfl, hsz, hP, hK, hD0⟩ := hv
  have hx := B.exec
  have hb := B.bytes
  have hr := B.returns
  have hts := atoms_spec (ws := wsX1_has) B.pre
  have hown : s.vm.findClass RX1 = some m.cls := findClass_of_methodNamed B.named
  have hlocks := B.notSynchronized
  subst hsz
  have hwX : ∀ w ∈ u_ws RX1 TX1 9, w ∈ wsX1_has := by decide +kernel
  have hD := hD0.self (sz := s.heap.size)
  generalize hAe : va_A (wm h0 q_memory k_memory v_atp v_vsAtp v_hgatp v_rights v_code v_found v_wanted v_ofEntry m_memory) s.heap.size = A at hD ⊢
  have hA : ∀ q : Nat, s.heap.size ≤ q → A q := fun q h => by rw [← hAe]; exact Or.inr h
  have hS : va_S A s.heap s.heap [] := va_S.rf
  have hP : va_P (dC, dI) vwCl (wm h0 q_memory k_memory v_atp v_vsAtp v_hgatp v_rights v_code v_found v_wanted v_ofEntry m_memory) s.heap := hP
  have hl := lv_entry ([.ref h0, .int a0]) (n := 2) (Nat.le_of_ble_eq_true rfl)
  rw [lg_entry_eq]
  generalize (lg_sl ([.ref h0, .int a0]) ++ List.replicate (2 - (lg_sl ([.ref h0, .int a0])).length) Slot.unset).toArray = ls at hl ⊢
  have hl : lv_has ls 2 [(0, .ref h0), (1, .int a0)] := hl
  refine lv_aload_n hx hb dX1_has_0 rfl (lv_at hl 0 rfl) ?_
  refine va_get (D := (dC, dI)) (ci := 1) (v := .int v_rights) (C := RX1) (T := TX1) (N := 9) hx hb hts hwX hown hK hP 0 rfl rfl 4 (by decide) (hts (.fieldLink RX1 27 "StageWalkerModel" "rights" "I") (by decide +kernel)) (fun _ h9 => h9) rfl dX1_has_1 ?_
  refine lv_iload_n hx hb dX1_has_4 rfl (lv_at hl 1 rfl) ?_
  refine lv_ishr hx hb dX1_has_5 ?_
  refine lv_iconst (v := 1) hx hb dX1_has_6 (by decide) ?_
  refine lv_iand hx hb dX1_has_7 ?_
  refine lv_iconst (v := 1) hx hb dX1_has_8 (by decide) ?_
  refine lv_icmp_ne (tgt := 16) hx hb dX1_has_9 (by decide) (fun c_9 => ?_) (fun c_9 => ?_)
  · skip
    refine lv_iconst (v := 0) hx hb dX1_has_16 (by decide) ?_
    exact W.zret (v := 0) (ty := .boolean) hx hb hr nb_0 (fun t ht hW => ⟨⟨_, (), rfl, by first | (rw [fm_has, if_neg c_9]; done) | (simp only [fm_has, if_neg c_9]; done) | (rw [fm_has, if_neg c_9] <;> rfl), by rw [ht]; exact hP, va_K.moved hW.alike hK, hD⟩, hS.F ht⟩) hS.2.2 dX1_has_17
  · skip
    refine lv_iconst (v := 1) hx hb dX1_has_12 (by decide) ?_
    refine lv_goto (tgt := 17) hx hb dX1_has_13 (by decide) ?_
    exact W.zret (v := 1) (ty := .boolean) hx hb hr nb_1 (fun t ht hW => ⟨⟨_, (), rfl, by first | (rw [fm_has, if_pos c_9]; done) | (simp only [fm_has, if_pos c_9]; done) | (rw [fm_has, if_pos c_9] <;> rfl), by rw [ht]; exact hP, va_K.moved hW.alike hK, hD⟩, hS.F ht⟩) hS.2.2 dX1_has_17
def fm_raise (a0 : Int32) (a1 : Int32) (a2 : Int32) (a3 : Int32) : Int32 := (if a0 = 0 then a1 else if a0 = 2 then a3 else a2 : Int32)
set_option maxHeartbeats 4000000 in
set_option maxRecDepth 100000 in
theorem ctm_raise (l : Launch) (dC : Nat → ClassId) (dI : Nat → Nat → Nat) (h0 : Nat) (q_memory : Nat) (k_memory : ClassId) (sz : Nat) (v_atp : Int32) (v_vsAtp : Int32) (v_hgatp : Int32) (v_rights : Int32) (v_code : Int32) (v_found : Int64) (v_wanted : Int64) (v_ofEntry : Int32) (m_memory : Nat → Int32) (a0 : Int32) (a1 : Int32) (a2 : Int32) (a3 : Int32) : MWv l yX1_raise wsX1_raise ({ frames := 0, cells := 0, slots := 0, locals := 0 }) (dC, dI) vwCl [(k_memory, .int)] [.ref h0, .int a0, .int a1, .int a2, .int a3] sz (wm h0 q_memory k_memory v_atp v_vsAtp v_hgatp v_rights v_code v_found v_wanted v_ofEntry m_memory) (fun u : Int32 => (wm h0 q_memory k_memory v_atp v_vsAtp v_hgatp v_rights u v_found v_wanted v_ofEntry m_memory)) (fm_raise a0 a1 a2 a3) := by
  refine Met.ofW (cc := cX1_raise) (maxL := 5) (ret := none) (by decide) rfl ?_
  intro p e s m args below meth c s₁ B hml hv
  obtain ⟨rfl, hsz, hP, hK, hD0⟩ := hv
  have hx := B.exec
  have hb := B.bytes
  have hr := B.returns
  have hts := atoms_spec (ws := wsX1_raise) B.pre
  have hown : s.vm.findClass RX1 = some m.cls := findClass_of_methodNamed B.named
  have hlocks := B.notSynchronized
  subst hsz
  have hwX : ∀ w ∈ u_ws RX1 TX1 9, w ∈ wsX1_raise := by decide +kernel
  have hD := hD0.self (sz := s.heap.size)
  generalize hAe : va_A (wm h0 q_memory k_memory v_atp v_vsAtp v_hgatp v_rights v_code v_found v_wanted v_ofEntry m_memory) s.heap.size = A at hD ⊢
  have hA : ∀ q : Nat, s.heap.size ≤ q → A q := fun q h => by rw [← hAe]; exact Or.inr h
  have hS : va_S A s.heap s.heap [] := va_S.rf
  have hP : va_P (dC, dI) vwCl (wm h0 q_memory k_memory v_atp v_vsAtp v_hgatp v_rights v_code v_found v_wanted v_ofEntry m_memory) s.heap := hP
  have hl := lv_entry ([.ref h0, .int a0, .int a1, .int a2, .int a3]) (n := 5) (Nat.le_of_ble_eq_true rfl)
  rw [lg_entry_eq]
  generalize (lg_sl ([.ref h0, .int a0, .int a1, .int a2, .int a3]) ++ List.replicate (5 - (lg_sl ([.ref h0, .int a0, .int a1, .int a2, .int a3])).length) Slot.unset).toArray = ls at hl ⊢
  have hl : lv_has ls 5 [(0, .ref h0), (1, .int a0), (2, .int a1), (3, .int a2), (4, .int a3)] := hl
  refine lv_aload_n hx hb dX1_raise_0 rfl (lv_at hl 0 rfl) ?_
  refine lv_iload_n hx hb dX1_raise_1 rfl (lv_at hl 1 rfl) ?_
  refine lj_i (j := 20) (z0 := if a0 = 0 then a1 else if a0 = 2 then a3 else a2) (rest := [.ref h0]) hP hS (fun H locs hP hS z_1 ez_1 => ?_) (fun J20_2 => ?_)
  · skip
    refine va_put (D := (dC, dI)) (ci := 1) (v := .int z_1) (ty := .int) (C := RX1) (T := TX1) (N := 9) hx hb hts hwX tyX1 tyX1_ok nmX1 hown hK hP hD hS 0 rfl rfl 5 (by decide) (hts (.fieldLink RX1 14 "StageWalkerModel" "code" "I") (by decide +kernel)) (fun _ h9 => h9) rfl (by decide +kernel) rfl rfl (Nat.le_of_ble_eq_true rfl) dX1_raise_20 (fun H locs hP hD hS => ?_)
    have hP : va_P (dC, dI) vwCl (wm h0 q_memory k_memory v_atp v_vsAtp v_hgatp v_rights z_1 v_found v_wanted v_ofEntry m_memory) H := hP
    have hD : va_D A (wm h0 q_memory k_memory v_atp v_vsAtp v_hgatp v_rights z_1 v_found v_wanted v_ofEntry m_memory) := hD
    exact W.vret hx hb hr (fun t ht hW => ⟨⟨z_1, rfl, by subst ez_1; rfl, by rw [ht]; exact hP, va_K.moved hW.alike hK, hD⟩, hS.F ht⟩) hS.2.2 dX1_raise_23
  · skip
    refine lv_if_ne (tgt := 9) hx hb dX1_raise_2 (by decide) (fun c_2 => ?_) (fun c_2 => ?_)
    · skip
      refine lv_iload_n hx hb dX1_raise_9 rfl (lv_at hl 1 rfl) ?_
      refine lv_iconst (v := 2) hx hb dX1_raise_10 (by decide) ?_
      refine lv_icmp_ne (tgt := 19) hx hb dX1_raise_11 (by decide) (fun c_11 => ?_) (fun c_11 => ?_)
      · skip
        refine lv_iload_n hx hb dX1_raise_19 rfl (lv_at hl 3 rfl) ?_
        exact W.eq (by rw [if_neg c_2, if_neg c_11] <;> rfl) (J20_2 _ _ hP hS)
      · skip
        refine lv_iload hx hb dX1_raise_14 (lv_at hl 4 rfl) ?_
        refine lv_goto (tgt := 20) hx hb dX1_raise_16 (by decide) ?_
        exact W.eq (by rw [if_neg c_2, if_pos c_11] <;> rfl) (J20_2 _ _ hP hS)
    · skip
      refine lv_iload_n hx hb dX1_raise_5 rfl (lv_at hl 2 rfl) ?_
      refine lv_goto (tgt := 20) hx hb dX1_raise_6 (by decide) ?_
      exact W.eq (by rw [if_pos c_2] <;> rfl) (J20_2 _ _ hP hS)
def fm_inMemory (v_code : Int32) (a0 : Int32) (a1 : Int64) : Int64 × Int32 := if a1 < 262144 then (a1, v_code) else (a1, (fm_raise a0 1 5 7))
set_option maxHeartbeats 4000000 in
set_option maxRecDepth 100000 in
theorem ctm_inMemory (l : Launch) (dC : Nat → ClassId) (dI : Nat → Nat → Nat) (h0 : Nat) (q_memory : Nat) (k_memory : ClassId) (sz : Nat) (v_atp : Int32) (v_vsAtp : Int32) (v_hgatp : Int32) (v_rights : Int32) (v_code : Int32) (v_found : Int64) (v_wanted : Int64) (v_ofEntry : Int32) (m_memory : Nat → Int32) (a0 : Int32) (a1 : Int64) : MWl l yX1_inMemory wsX1_inMemory ({ frames := 1, cells := 0, slots := 0, locals := 24 }) (dC, dI) vwCl [(k_memory, .int)] [.ref h0, .int a0, .long a1] sz (wm h0 q_memory k_memory v_atp v_vsAtp v_hgatp v_rights v_code v_found v_wanted v_ofEntry m_memory) (fun u : Int64 × Int32 => (wm h0 q_memory k_memory v_atp v_vsAtp v_hgatp v_rights u.2 v_found v_wanted v_ofEntry m_memory)) (fun u : Int64 × Int32 => u.1) (fm_inMemory v_code a0 a1) := by
  refine Met.ofW (cc := cX1_inMemory) (maxL := 4) (ret := (some .long)) (by decide) rfl ?_
  intro p e s m args below meth c s₁ B hml hv
  obtain ⟨rfl, hsz, hP, hK, hD0⟩ := hv
  have hx := B.exec
  have hb := B.bytes
  have hr := B.returns
  have hts := atoms_spec (ws := wsX1_inMemory) B.pre
  have hown : s.vm.findClass RX1 = some m.cls := findClass_of_methodNamed B.named
  have hlocks := B.notSynchronized
  subst hsz
  have hD := hD0.self (sz := s.heap.size)
  generalize hAe : va_A (wm h0 q_memory k_memory v_atp v_vsAtp v_hgatp v_rights v_code v_found v_wanted v_ofEntry m_memory) s.heap.size = A at hD ⊢
  have hA : ∀ q : Nat, s.heap.size ≤ q → A q := fun q h => by rw [← hAe]; exact Or.inr h
  have hS : va_S A s.heap s.heap [] := va_S.rf
  have hP : va_P (dC, dI) vwCl (wm h0 q_memory k_memory v_atp v_vsAtp v_hgatp v_rights v_code v_found v_wanted v_ofEntry m_memory) s.heap := hP
  have hl := lv_entry ([.ref h0, .int a0, .long a1]) (n := 4) (Nat.le_of_ble_eq_true rfl)
  rw [lg_entry_eq]
  generalize (lg_sl ([.ref h0, .int a0, .long a1]) ++ List.replicate (4 - (lg_sl ([.ref h0, .int a0, .long a1])).length) Slot.unset).toArray = ls at hl ⊢
  have hl : lv_has ls 4 [(0, .ref h0), (1, .int a0), (2, .long a1)] := hl
  refine lv_lload_n hx hb dX1_inMemory_0 rfl (lv_at hl 2 rfl) ?_
  refine lv_ldc2 hx hb hown (hts (.constantLong RX1 32 262144) (by decide +kernel)) dX1_inMemory_1 ?_
  refine lq_lt (tgt := 17) hx hb dX1_inMemory_4 dX1_inMemory_5 (by decide) (fun c_5 => ?_) (fun c_5 => ?_)
  · skip
    refine lv_lload_n hx hb dX1_inMemory_17 rfl (lv_at hl 2 rfl) ?_
    exact W.lret (v := a1) hx hb hr (fun t ht hW => ⟨⟨_, (a1, v_code), rfl, ⟨rfl, by first | (rw [fm_inMemory, if_pos c_5]; done) | (simp only [fm_inMemory, if_pos c_5]; done) | (rw [fm_inMemory, if_pos c_5] <;> rfl)⟩, by rw [ht]; exact hP, va_K.moved hW.alike hK, hD⟩, hS.F ht⟩) hS.2.2 dX1_inMemory_18
  · skip
    refine lv_aload_n hx hb dX1_inMemory_8 rfl (lv_at hl 0 rfl) ?_
    refine lv_iload_n hx hb dX1_inMemory_9 rfl (lv_at hl 1 rfl) ?_
    refine lv_iconst (v := 1) hx hb dX1_inMemory_10 (by decide) ?_
    refine lv_iconst (v := 5) hx hb dX1_inMemory_11 (by decide) ?_
    refine lv_bipush (v := 7) hx hb dX1_inMemory_12 (by decide) ?_
    refine cw_v (va_runV (As := [.int a0, .int 1, .int 5, .int 7]) (rest := []) ⟨hx, hb, hml, hown, hts⟩ (ctm_raise l dC dI h0 q_memory k_memory s.heap.size v_atp v_vsAtp v_hgatp v_rights v_code v_found v_wanted v_ofEntry m_memory a0 1 5 7) (cwV 4 hts gX1_inMemory_X1_raise rfl rfl rfl (by decide +kernel) ⟨Nat.le_of_ble_eq_true rfl, Nat.le_of_ble_eq_true rfl⟩) ⟨fun a U g mk q => ⟨q.1, q.2.1, q.2.2.1, va_K.moved (u := U) (U := U.calling g mk a) (Vm.Alike.refl U.vm) q.2.2.2.1, q.2.2.2.2⟩, va_recv hK hP (ci := 1) (q0 := 0) rfl rfl, fun U hU hW => ⟨rfl, by rw [hU], by rw [hU]; exact hP, va_K.moved hW.alike hK, hD.weaken (fun _ _ _ _ => trivial)⟩⟩ rfl rfl hl.1 rfl (lv_room (Nat.le_of_ble_eq_true rfl)) dX1_inMemory_14 ⟨Nat.zero_le _, Nat.zero_le _⟩) hA hD hP hS (fun o_1 H locs eo_1 hP hD hS => ?_)
    have hP : va_P (dC, dI) vwCl (wm h0 q_memory k_memory v_atp v_vsAtp v_hgatp v_rights o_1 v_found v_wanted v_ofEntry m_memory) H := hP
    have hD : va_D A (wm h0 q_memory k_memory v_atp v_vsAtp v_hgatp v_rights o_1 v_found v_wanted v_ofEntry m_memory) := hD
    refine lv_lload_n hx hb dX1_inMemory_17 rfl (lv_at hl 2 rfl) ?_
    exact W.lret (v := a1) hx hb hr (fun t ht hW => ⟨⟨_, (a1, o_1), rfl, ⟨rfl, by subst eo_1; first | (rw [fm_inMemory, if_neg c_5]; done) | (simp only [fm_inMemory, if_neg c_5]; done) | (rw [fm_inMemory, if_neg c_5] <;> rfl)⟩, by rw [ht]; exact hP, va_K.moved hW.alike hK, hD⟩, hS.F ht⟩) hS.2.2 dX1_inMemory_18
def fm_userFits (a0 : Int32) (a1 : Int32) (a2 : Int32) (a3 : Int32) : Int32 := if a1 = 0 then if ((fm_isSet a0 4)) = 0 then 1 else if a3 = 0 then 0 else if a2 = 0 then 0 else 1 else (fm_isSet a0 4)
set_option maxHeartbeats 4000000 in
set_option maxRecDepth 100000 in
theorem ctm_userFits (l : Launch) (dC : Nat → ClassId) (dI : Nat → Nat → Nat) (h0 : Nat) (q_memory : Nat) (k_memory : ClassId) (sz : Nat) (v_atp : Int32) (v_vsAtp : Int32) (v_hgatp : Int32) (v_rights : Int32) (v_code : Int32) (v_found : Int64) (v_wanted : Int64) (v_ofEntry : Int32) (m_memory : Nat → Int32) (a0 : Int32) (a1 : Int32) (a2 : Int32) (a3 : Int32) : MRi l yX1_userFits wsX1_userFits ({ frames := 1, cells := 0, slots := 0, locals := 21 }) (dC, dI) vwCl [(k_memory, .int)] [.ref h0, .int a0, .int a1, .int a2, .int a3] sz (wm h0 q_memory k_memory v_atp v_vsAtp v_hgatp v_rights v_code v_found v_wanted v_ofEntry m_memory) (fm_userFits a0 a1 a2 a3) := by
  refine Met.ofW (cc := cX1_userFits) (maxL := 6) (ret := (some .boolean)) (by decide) rfl ?_
  intro p e s m args below meth c s₁ B hml hv
  obtain ⟨rfl, hsz, hP, hK, hD0⟩ := hv
  have hx := B.exec
  have hb := B.bytes
  have hr := B.returns
  have hts := atoms_spec (ws := wsX1_userFits) B.pre
  have hown : s.vm.findClass RX1 = some m.cls := findClass_of_methodNamed B.named
  have hlocks := B.notSynchronized
  subst hsz
  have hD := hD0.self (sz := s.heap.size)
  generalize hAe : va_A (wm h0 q_memory k_memory v_atp v_vsAtp v_hgatp v_rights v_code v_found v_wanted v_ofEntry m_memory) s.heap.size = A at hD ⊢
  have hA : ∀ q : Nat, s.heap.size ≤ q → A q := fun q h => by rw [← hAe]; exact Or.inr h
  have hS : va_S A s.heap s.heap [] := va_S.rf
  have hP : va_P (dC, dI) vwCl (wm h0 q_memory k_memory v_atp v_vsAtp v_hgatp v_rights v_code v_found v_wanted v_ofEntry m_memory) s.heap := hP
  have hl := lv_entry ([.ref h0, .int a0, .int a1, .int a2, .int a3]) (n := 6) (Nat.le_of_ble_eq_true rfl)
  rw [lg_entry_eq]
  generalize (lg_sl ([.ref h0, .int a0, .int a1, .int a2, .int a3]) ++ List.replicate (6 - (lg_sl ([.ref h0, .int a0, .int a1, .int a2, .int a3])).length) Slot.unset).toArray = ls at hl ⊢
  have hl : lv_has ls 6 [(0, .ref h0), (1, .int a0), (2, .int a1), (3, .int a2), (4, .int a3)] := hl
  refine lv_iload_n hx hb dX1_userFits_0 rfl (lv_at hl 1 rfl) ?_
  refine lv_iconst (v := 4) hx hb dX1_userFits_1 (by decide) ?_
  refine cs_i (va_runS (As := [.int a0, .int 4]) (rest := []) ⟨hx, hb, hml, hown, hts⟩ (ctm_isSet l s.heap.size a0 4) (va_cwS 2 hts gX1_userFits_X1_isSet rfl rfl rfl (by decide +kernel) ⟨Nat.le_of_ble_eq_true rfl, Nat.le_of_ble_eq_true rfl⟩) ⟨fun a U g mk q => q, fun U hU hW => ⟨rfl, congrArg Array.size hU⟩⟩ rfl rfl hl.1 rfl (lv_room (Nat.le_of_ble_eq_true rfl)) dX1_userFits_2 ⟨Nat.zero_le _, Nat.zero_le _⟩) hA hP hS (fun H locs hP hS => ?_)
  refine lv_topi (fun z_1 ez_1 => ?_)
  refine lv_istore (lv' := [(5, .int z_1), (0, .ref h0), (1, .int a0), (2, .int a1), (3, .int a2), (4, .int a3)]) hx hb dX1_userFits_5 hl (by decide) rfl (fun ls hl => ?_)
  refine lv_iload_n hx hb dX1_userFits_7 rfl (lv_at hl 3 rfl) ?_
  refine lv_if_eq (tgt := 16) hx hb dX1_userFits_8 (by decide) (fun c_8 => ?_) (fun c_8 => ?_)
  · skip
    refine lv_iload hx hb dX1_userFits_16 (lv_at hl 0 rfl) ?_
    refine lv_if_eq (tgt := 30) hx hb dX1_userFits_18 (by decide) (fun c_18 => ?_) (fun c_18 => ?_)
    · skip
      refine lv_iconst (v := 1) hx hb dX1_userFits_30 (by decide) ?_
      refine lv_goto (tgt := 35) hx hb dX1_userFits_31 (by decide) ?_
      exact W.zret (v := 1) (ty := .boolean) hx hb hr nb_1 (fun t ht hW => ⟨⟨_, (), rfl, by subst ez_1; first | (rw [fm_userFits, if_pos c_8, if_pos c_18]; done) | (simp only [fm_userFits, if_pos c_8, if_pos c_18]; done) | (rw [fm_userFits, if_pos c_8, if_pos c_18] <;> rfl), by rw [ht]; exact hP, va_K.moved hW.alike hK, hD⟩, hS.F ht⟩) hS.2.2 dX1_userFits_35
    · skip
      refine lv_iload hx hb dX1_userFits_21 (lv_at hl 5 rfl) ?_
      refine lv_if_eq (tgt := 34) hx hb dX1_userFits_23 (by decide) (fun c_23 => ?_) (fun c_23 => ?_)
      · skip
        refine lv_iconst (v := 0) hx hb dX1_userFits_34 (by decide) ?_
        exact W.zret (v := 0) (ty := .boolean) hx hb hr nb_0 (fun t ht hW => ⟨⟨_, (), rfl, by subst ez_1; first | (rw [fm_userFits, if_pos c_8, if_neg c_18, if_pos c_23]; done) | (simp only [fm_userFits, if_pos c_8, if_neg c_18, if_pos c_23]; done) | (rw [fm_userFits, if_pos c_8, if_neg c_18, if_pos c_23] <;> rfl), by rw [ht]; exact hP, va_K.moved hW.alike hK, hD⟩, hS.F ht⟩) hS.2.2 dX1_userFits_35
      · skip
        refine lv_iload_n hx hb dX1_userFits_26 rfl (lv_at hl 4 rfl) ?_
        refine lv_if_eq (tgt := 34) hx hb dX1_userFits_27 (by decide) (fun c_27 => ?_) (fun c_27 => ?_)
        · skip
          refine lv_iconst (v := 0) hx hb dX1_userFits_34 (by decide) ?_
          exact W.zret (v := 0) (ty := .boolean) hx hb hr nb_0 (fun t ht hW => ⟨⟨_, (), rfl, by subst ez_1; first | (rw [fm_userFits, if_pos c_8, if_neg c_18, if_neg c_23, if_pos c_27]; done) | (simp only [fm_userFits, if_pos c_8, if_neg c_18, if_neg c_23, if_pos c_27]; done) | (rw [fm_userFits, if_pos c_8, if_neg c_18, if_neg c_23, if_pos c_27] <;> rfl), by rw [ht]; exact hP, va_K.moved hW.alike hK, hD⟩, hS.F ht⟩) hS.2.2 dX1_userFits_35
        · skip
          refine lv_iconst (v := 1) hx hb dX1_userFits_30 (by decide) ?_
          refine lv_goto (tgt := 35) hx hb dX1_userFits_31 (by decide) ?_
          exact W.zret (v := 1) (ty := .boolean) hx hb hr nb_1 (fun t ht hW => ⟨⟨_, (), rfl, by subst ez_1; first | (rw [fm_userFits, if_pos c_8, if_neg c_18, if_neg c_23, if_neg c_27]; done) | (simp only [fm_userFits, if_pos c_8, if_neg c_18, if_neg c_23, if_neg c_27]; done) | (rw [fm_userFits, if_pos c_8, if_neg c_18, if_neg c_23, if_neg c_27] <;> rfl), by rw [ht]; exact hP, va_K.moved hW.alike hK, hD⟩, hS.F ht⟩) hS.2.2 dX1_userFits_35
  · skip
    refine lv_iload hx hb dX1_userFits_11 (lv_at hl 0 rfl) ?_
    refine lv_goto (tgt := 35) hx hb dX1_userFits_13 (by decide) ?_
    exact W.zret (v := z_1) (ty := .boolean) hx hb hr (nb_z (by rw [ez_1]; exact ob_isSet _ _)) (fun t ht hW => ⟨⟨_, (), rfl, by subst ez_1; first | (rw [fm_userFits, if_neg c_8]; done) | (simp only [fm_userFits, if_neg c_8]; done) | (rw [fm_userFits, if_neg c_8] <;> rfl), by rw [ht]; exact hP, va_K.moved hW.alike hK, hD⟩, hS.F ht⟩) hS.2.2 dX1_userFits_35
def fm_word (m_memory : Nat → Int32) (a0 : Int32) : Int32 := if a0 < 0 then 0 else if 262144 ≤ a0 then 0 else if (a0 - a0 / 4 * 4) = 0 then m_memory (a0 / 4).toNatClampNeg else 0
set_option maxHeartbeats 4000000 in
set_option maxRecDepth 100000 in
theorem ctm_word (l : Launch) (dC : Nat → ClassId) (dI : Nat → Nat → Nat) (h0 : Nat) (q_memory : Nat) (k_memory : ClassId) (sz : Nat) (v_atp : Int32) (v_vsAtp : Int32) (v_hgatp : Int32) (v_rights : Int32) (v_code : Int32) (v_found : Int64) (v_wanted : Int64) (v_ofEntry : Int32) (m_memory : Nat → Int32) (a0 : Int32) : MRi l yX1_word wsX1_word ({ frames := 0, cells := 0, slots := 0, locals := 0 }) (dC, dI) vwCl [(k_memory, .int)] [.ref h0, .int a0] sz (wm h0 q_memory k_memory v_atp v_vsAtp v_hgatp v_rights v_code v_found v_wanted v_ofEntry m_memory) (fm_word m_memory a0) := by
  refine Met.ofW (cc := cX1_word) (maxL := 2) (ret := (some .int)) (by decide) rfl ?_
  intro p e s m args below meth c s₁ B hml hv
  obtain ⟨rfl, hsz, hP, hK, hD0⟩ := hv
  have hx := B.exec
  have hb := B.bytes
  have hr := B.returns
  have hts := atoms_spec (ws := wsX1_word) B.pre
  have hown : s.vm.findClass RX1 = some m.cls := findClass_of_methodNamed B.named
  have hlocks := B.notSynchronized
  subst hsz
  have hwX : ∀ w ∈ u_ws RX1 TX1 9, w ∈ wsX1_word := by decide +kernel
  have hD := hD0.self (sz := s.heap.size)
  generalize hAe : va_A (wm h0 q_memory k_memory v_atp v_vsAtp v_hgatp v_rights v_code v_found v_wanted v_ofEntry m_memory) s.heap.size = A at hD ⊢
  have hA : ∀ q : Nat, s.heap.size ≤ q → A q := fun q h => by rw [← hAe]; exact Or.inr h
  have hS : va_S A s.heap s.heap [] := va_S.rf
  have hP : va_P (dC, dI) vwCl (wm h0 q_memory k_memory v_atp v_vsAtp v_hgatp v_rights v_code v_found v_wanted v_ofEntry m_memory) s.heap := hP
  have hl := lv_entry ([.ref h0, .int a0]) (n := 2) (Nat.le_of_ble_eq_true rfl)
  rw [lg_entry_eq]
  generalize (lg_sl ([.ref h0, .int a0]) ++ List.replicate (2 - (lg_sl ([.ref h0, .int a0])).length) Slot.unset).toArray = ls at hl ⊢
  have hl : lv_has ls 2 [(0, .ref h0), (1, .int a0)] := hl
  refine lv_iload_n hx hb dX1_word_0 rfl (lv_at hl 1 rfl) ?_
  refine lv_if_lt (tgt := 27) hx hb dX1_word_1 (by decide) (fun c_1 => ?_) (fun c_1 => ?_)
  · skip
    refine lv_iconst (v := 0) hx hb dX1_word_27 (by decide) ?_
    exact W.iret (v := 0) hx hb hr (fun t ht hW => ⟨⟨_, (), rfl, by first | (rw [fm_word, if_pos c_1]; done) | (simp only [fm_word, if_pos c_1]; done) | (rw [fm_word, if_pos c_1] <;> rfl), by rw [ht]; exact hP, va_K.moved hW.alike hK, hD⟩, hS.F ht⟩) hS.2.2 dX1_word_28
  · skip
    refine lv_iload_n hx hb dX1_word_4 rfl (lv_at hl 1 rfl) ?_
    refine lv_ldc hx hb hown (hts (.constant RX1 31 262144) (by decide +kernel)) dX1_word_5 ?_
    refine lv_icmp_ge (tgt := 27) hx hb dX1_word_7 (by decide) (fun c_7 => ?_) (fun c_7 => ?_)
    · skip
      refine lv_iconst (v := 0) hx hb dX1_word_27 (by decide) ?_
      exact W.iret (v := 0) hx hb hr (fun t ht hW => ⟨⟨_, (), rfl, by first | (rw [fm_word, if_neg c_1, if_pos c_7]; done) | (simp only [fm_word, if_neg c_1, if_pos c_7]; done) | (rw [fm_word, if_neg c_1, if_pos c_7] <;> rfl), by rw [ht]; exact hP, va_K.moved hW.alike hK, hD⟩, hS.F ht⟩) hS.2.2 dX1_word_28
    · skip
      refine lv_iload_n hx hb dX1_word_10 rfl (lv_at hl 1 rfl) ?_
      refine lv_iconst (v := 4) hx hb dX1_word_11 (by decide) ?_
      refine lv_irem hx hb dX1_word_12 (by decide) ?_
      refine lv_if_ne (tgt := 27) hx hb dX1_word_13 (by decide) (fun c_13 => ?_) (fun c_13 => ?_)
      · skip
        refine lv_iconst (v := 0) hx hb dX1_word_27 (by decide) ?_
        exact W.iret (v := 0) hx hb hr (fun t ht hW => ⟨⟨_, (), rfl, by first | (rw [fm_word, if_neg c_1, if_neg c_7, if_neg c_13]; done) | (simp only [fm_word, if_neg c_1, if_neg c_7, if_neg c_13]; done) | (rw [fm_word, if_neg c_1, if_neg c_7, if_neg c_13] <;> rfl), by rw [ht]; exact hP, va_K.moved hW.alike hK, hD⟩, hS.F ht⟩) hS.2.2 dX1_word_28
      · skip
        refine lv_aload_n hx hb dX1_word_16 rfl (lv_at hl 0 rfl) ?_
        refine va_get (D := (dC, dI)) (ci := 1) (v := .ref q_memory) (C := RX1) (T := TX1) (N := 9) hx hb hts hwX hown hK hP 0 rfl rfl 0 (by decide) (hts (.fieldLink RX1 8 "StageWalkerModel" "memory" "[I") (by decide +kernel)) (fun _ h9 => h9) rfl dX1_word_17 ?_
        refine lv_iload_n hx hb dX1_word_20 rfl (lv_at hl 1 rfl) ?_
        refine lv_iconst (v := 4) hx hb dX1_word_21 (by decide) ?_
        refine lv_idiv hx hb dX1_word_22 (by decide) ?_
        refine va_iald (cA := k_memory) (f := m_memory) hx hb hK hP 1 0 rfl rfl (i := a0 / 4) (vm_word c_1 c_7) dX1_word_23 ?_
        refine lv_goto (tgt := 28) hx hb dX1_word_24 (by decide) ?_
        exact W.iret (v := m_memory (a0 / 4).toNatClampNeg) hx hb hr (fun t ht hW => ⟨⟨_, (), rfl, by first | (rw [fm_word, if_neg c_1, if_neg c_7, if_pos c_13]; done) | (simp only [fm_word, if_neg c_1, if_neg c_7, if_pos c_13]; done) | (rw [fm_word, if_neg c_1, if_neg c_7, if_pos c_13] <;> rfl), by rw [ht]; exact hP, va_K.moved hW.alike hK, hD⟩, hS.F ht⟩) hS.2.2 dX1_word_28
def fm_poke (m_memory : Nat → Int32) (a0 : Int32) (a1 : Int32) (a2 : Int32) (a3 : Int32) (a4 : Int32) (a5 : Int32) : Int32 × (Nat → Int32) := if a0 < 0 then ((-1), m_memory) else if (a0 - a0 / 4 * 4) = 0 then if a0 ≤ 262124 then (a0 + 20, upd (upd (upd (upd (upd m_memory (a0 / 4).toNatClampNeg a1) ((a0 / 4) + 1).toNatClampNeg a2) ((a0 / 4) + 2).toNatClampNeg a3) ((a0 / 4) + 3).toNatClampNeg a4) ((a0 / 4) + 4).toNatClampNeg a5) else ((-1), m_memory) else ((-1), m_memory)
set_option maxHeartbeats 4000000 in
set_option maxRecDepth 100000 in
theorem ctm_poke (l : Launch) (dC : Nat → ClassId) (dI : Nat → Nat → Nat) (h0 : Nat) (q_memory : Nat) (k_memory : ClassId) (sz : Nat) (v_atp : Int32) (v_vsAtp : Int32) (v_hgatp : Int32) (v_rights : Int32) (v_code : Int32) (v_found : Int64) (v_wanted : Int64) (v_ofEntry : Int32) (m_memory : Nat → Int32) (a0 : Int32) (a1 : Int32) (a2 : Int32) (a3 : Int32) (a4 : Int32) (a5 : Int32) : MWi l yX1_poke wsX1_poke ({ frames := 0, cells := 0, slots := 0, locals := 0 }) (dC, dI) vwCl [(k_memory, .int)] [.ref h0, .int a0, .int a1, .int a2, .int a3, .int a4, .int a5] sz (wm h0 q_memory k_memory v_atp v_vsAtp v_hgatp v_rights v_code v_found v_wanted v_ofEntry m_memory) (fun u : Int32 × (Nat → Int32) => (wm h0 q_memory k_memory v_atp v_vsAtp v_hgatp v_rights v_code v_found v_wanted v_ofEntry u.2)) (fun u : Int32 × (Nat → Int32) => u.1) (fm_poke m_memory a0 a1 a2 a3 a4 a5) := by
  refine Met.ofW (cc := cX1_poke) (maxL := 8) (ret := (some .int)) (by decide) rfl ?_
  intro p e s m args below meth c s₁ B hml hv
  obtain ⟨rfl, hsz, hP, hK, hD0⟩ := hv
  have hx := B.exec
  have hb := B.bytes
  have hr := B.returns
  have hts := atoms_spec (ws := wsX1_poke) B.pre
  have hown : s.vm.findClass RX1 = some m.cls := findClass_of_methodNamed B.named
  have hlocks := B.notSynchronized
  subst hsz
  have hwX : ∀ w ∈ u_ws RX1 TX1 9, w ∈ wsX1_poke := by decide +kernel
  have hD := hD0.self (sz := s.heap.size)
  generalize hAe : va_A (wm h0 q_memory k_memory v_atp v_vsAtp v_hgatp v_rights v_code v_found v_wanted v_ofEntry m_memory) s.heap.size = A at hD ⊢
  have hA : ∀ q : Nat, s.heap.size ≤ q → A q := fun q h => by rw [← hAe]; exact Or.inr h
  have hS : va_S A s.heap s.heap [] := va_S.rf
  have hP : va_P (dC, dI) vwCl (wm h0 q_memory k_memory v_atp v_vsAtp v_hgatp v_rights v_code v_found v_wanted v_ofEntry m_memory) s.heap := hP
  have hl := lv_entry ([.ref h0, .int a0, .int a1, .int a2, .int a3, .int a4, .int a5]) (n := 8) (Nat.le_of_ble_eq_true rfl)
  rw [lg_entry_eq]
  generalize (lg_sl ([.ref h0, .int a0, .int a1, .int a2, .int a3, .int a4, .int a5]) ++ List.replicate (8 - (lg_sl ([.ref h0, .int a0, .int a1, .int a2, .int a3, .int a4, .int a5])).length) Slot.unset).toArray = ls at hl ⊢
  have hl : lv_has ls 8 [(0, .ref h0), (1, .int a0), (2, .int a1), (3, .int a2), (4, .int a3), (5, .int a4), (6, .int a5)] := hl
  refine lv_iload_n hx hb dX1_poke_0 rfl (lv_at hl 1 rfl) ?_
  refine lv_if_lt (tgt := 16) hx hb dX1_poke_1 (by decide) (fun c_1 => ?_) (fun c_1 => ?_)
  · skip
    refine lv_iconst (v := -1) hx hb dX1_poke_16 (by decide) ?_
    exact W.iret (v := (-1)) hx hb hr (fun t ht hW => ⟨⟨_, ((-1), m_memory), rfl, ⟨rfl, by first | (rw [fm_poke, if_pos c_1]; done) | (simp only [fm_poke, if_pos c_1]; done) | (rw [fm_poke, if_pos c_1] <;> rfl)⟩, by rw [ht]; exact hP, va_K.moved hW.alike hK, hD⟩, hS.F ht⟩) hS.2.2 dX1_poke_17
  · skip
    refine lv_iload_n hx hb dX1_poke_4 rfl (lv_at hl 1 rfl) ?_
    refine lv_iconst (v := 4) hx hb dX1_poke_5 (by decide) ?_
    refine lv_irem hx hb dX1_poke_6 (by decide) ?_
    refine lv_if_ne (tgt := 16) hx hb dX1_poke_7 (by decide) (fun c_7 => ?_) (fun c_7 => ?_)
    · skip
      refine lv_iconst (v := -1) hx hb dX1_poke_16 (by decide) ?_
      exact W.iret (v := (-1)) hx hb hr (fun t ht hW => ⟨⟨_, ((-1), m_memory), rfl, ⟨rfl, by first | (rw [fm_poke, if_neg c_1, if_neg c_7]; done) | (simp only [fm_poke, if_neg c_1, if_neg c_7]; done) | (rw [fm_poke, if_neg c_1, if_neg c_7] <;> rfl)⟩, by rw [ht]; exact hP, va_K.moved hW.alike hK, hD⟩, hS.F ht⟩) hS.2.2 dX1_poke_17
    · skip
      refine lv_iload_n hx hb dX1_poke_10 rfl (lv_at hl 1 rfl) ?_
      refine lv_ldc hx hb hown (hts (.constant RX1 30 262124) (by decide +kernel)) dX1_poke_11 ?_
      refine lv_icmp_le (tgt := 18) hx hb dX1_poke_13 (by decide) (fun c_13 => ?_) (fun c_13 => ?_)
      · skip
        refine lv_iload_n hx hb dX1_poke_18 rfl (lv_at hl 1 rfl) ?_
        refine lv_iconst (v := 4) hx hb dX1_poke_19 (by decide) ?_
        refine lv_idiv hx hb dX1_poke_20 (by decide) ?_
        refine lv_topi (fun z_1 ez_1 => ?_)
        refine lv_istore (lv' := [(7, .int z_1), (0, .ref h0), (1, .int a0), (2, .int a1), (3, .int a2), (4, .int a3), (5, .int a4), (6, .int a5)]) hx hb dX1_poke_21 hl (by decide) rfl (fun ls hl => ?_)
        refine lv_aload_n hx hb dX1_poke_23 rfl (lv_at hl 1 rfl) ?_
        refine va_get (D := (dC, dI)) (ci := 1) (v := .ref q_memory) (C := RX1) (T := TX1) (N := 9) hx hb hts hwX hown hK hP 0 rfl rfl 0 (by decide) (hts (.fieldLink RX1 8 "StageWalkerModel" "memory" "[I") (by decide +kernel)) (fun _ h9 => h9) rfl dX1_poke_24 ?_
        refine lv_iload hx hb dX1_poke_27 (lv_at hl 0 rfl) ?_
        refine lv_iload_n hx hb dX1_poke_29 rfl (lv_at hl 3 rfl) ?_
        refine va_iast (cA := k_memory) (f := m_memory) hx hb hK hP hD hS 1 0 rfl rfl (i := z_1) (x := a1) (vm_poke0 ez_1 c_1 c_13) dX1_poke_30 (fun H locs hP hD hS => ?_)
        have hP : va_P (dC, dI) vwCl (wm h0 q_memory k_memory v_atp v_vsAtp v_hgatp v_rights v_code v_found v_wanted v_ofEntry (upd m_memory z_1.toNatClampNeg a1)) H := hP
        have hD : va_D A (wm h0 q_memory k_memory v_atp v_vsAtp v_hgatp v_rights v_code v_found v_wanted v_ofEntry (upd m_memory z_1.toNatClampNeg a1)) := hD
        refine lv_aload_n hx hb dX1_poke_31 rfl (lv_at hl 1 rfl) ?_
        refine va_get (D := (dC, dI)) (ci := 1) (v := .ref q_memory) (C := RX1) (T := TX1) (N := 9) hx hb hts hwX hown hK hP 0 rfl rfl 0 (by decide) (hts (.fieldLink RX1 8 "StageWalkerModel" "memory" "[I") (by decide +kernel)) (fun _ h9 => h9) rfl dX1_poke_32 ?_
        refine lv_iload hx hb dX1_poke_35 (lv_at hl 0 rfl) ?_
        refine lv_iconst (v := 1) hx hb dX1_poke_37 (by decide) ?_
        refine lv_iadd hx hb dX1_poke_38 ?_
        refine lv_iload_n hx hb dX1_poke_39 rfl (lv_at hl 4 rfl) ?_
        refine va_iast (cA := k_memory) (f := upd m_memory z_1.toNatClampNeg a1) hx hb hK hP hD hS 1 0 rfl rfl (i := z_1 + 1) (x := a2) (vm_poke1 ez_1 c_1 c_13) dX1_poke_40 (fun H locs hP hD hS => ?_)
        have hP : va_P (dC, dI) vwCl (wm h0 q_memory k_memory v_atp v_vsAtp v_hgatp v_rights v_code v_found v_wanted v_ofEntry (upd (upd m_memory z_1.toNatClampNeg a1) (z_1 + 1).toNatClampNeg a2)) H := hP
        have hD : va_D A (wm h0 q_memory k_memory v_atp v_vsAtp v_hgatp v_rights v_code v_found v_wanted v_ofEntry (upd (upd m_memory z_1.toNatClampNeg a1) (z_1 + 1).toNatClampNeg a2)) := hD
        refine lv_aload_n hx hb dX1_poke_41 rfl (lv_at hl 1 rfl) ?_
        refine va_get (D := (dC, dI)) (ci := 1) (v := .ref q_memory) (C := RX1) (T := TX1) (N := 9) hx hb hts hwX hown hK hP 0 rfl rfl 0 (by decide) (hts (.fieldLink RX1 8 "StageWalkerModel" "memory" "[I") (by decide +kernel)) (fun _ h9 => h9) rfl dX1_poke_42 ?_
        refine lv_iload hx hb dX1_poke_45 (lv_at hl 0 rfl) ?_
        refine lv_iconst (v := 2) hx hb dX1_poke_47 (by decide) ?_
        refine lv_iadd hx hb dX1_poke_48 ?_
        refine lv_iload hx hb dX1_poke_49 (lv_at hl 5 rfl) ?_
        refine va_iast (cA := k_memory) (f := upd (upd m_memory z_1.toNatClampNeg a1) (z_1 + 1).toNatClampNeg a2) hx hb hK hP hD hS 1 0 rfl rfl (i := z_1 + 2) (x := a3) (vm_poke2 ez_1 c_1 c_13) dX1_poke_51 (fun H locs hP hD hS => ?_)
        have hP : va_P (dC, dI) vwCl (wm h0 q_memory k_memory v_atp v_vsAtp v_hgatp v_rights v_code v_found v_wanted v_ofEntry (upd (upd (upd m_memory z_1.toNatClampNeg a1) (z_1 + 1).toNatClampNeg a2) (z_1 + 2).toNatClampNeg a3)) H := hP
        have hD : va_D A (wm h0 q_memory k_memory v_atp v_vsAtp v_hgatp v_rights v_code v_found v_wanted v_ofEntry (upd (upd (upd m_memory z_1.toNatClampNeg a1) (z_1 + 1).toNatClampNeg a2) (z_1 + 2).toNatClampNeg a3)) := hD
        refine lv_aload_n hx hb dX1_poke_52 rfl (lv_at hl 1 rfl) ?_
        refine va_get (D := (dC, dI)) (ci := 1) (v := .ref q_memory) (C := RX1) (T := TX1) (N := 9) hx hb hts hwX hown hK hP 0 rfl rfl 0 (by decide) (hts (.fieldLink RX1 8 "StageWalkerModel" "memory" "[I") (by decide +kernel)) (fun _ h9 => h9) rfl dX1_poke_53 ?_
        refine lv_iload hx hb dX1_poke_56 (lv_at hl 0 rfl) ?_
        refine lv_iconst (v := 3) hx hb dX1_poke_58 (by decide) ?_
        refine lv_iadd hx hb dX1_poke_59 ?_
        refine lv_iload hx hb dX1_poke_60 (lv_at hl 6 rfl) ?_
        refine va_iast (cA := k_memory) (f := upd (upd (upd m_memory z_1.toNatClampNeg a1) (z_1 + 1).toNatClampNeg a2) (z_1 + 2).toNatClampNeg a3) hx hb hK hP hD hS 1 0 rfl rfl (i := z_1 + 3) (x := a4) (vm_poke3 ez_1 c_1 c_13) dX1_poke_62 (fun H locs hP hD hS => ?_)
        have hP : va_P (dC, dI) vwCl (wm h0 q_memory k_memory v_atp v_vsAtp v_hgatp v_rights v_code v_found v_wanted v_ofEntry (upd (upd (upd (upd m_memory z_1.toNatClampNeg a1) (z_1 + 1).toNatClampNeg a2) (z_1 + 2).toNatClampNeg a3) (z_1 + 3).toNatClampNeg a4)) H := hP
        have hD : va_D A (wm h0 q_memory k_memory v_atp v_vsAtp v_hgatp v_rights v_code v_found v_wanted v_ofEntry (upd (upd (upd (upd m_memory z_1.toNatClampNeg a1) (z_1 + 1).toNatClampNeg a2) (z_1 + 2).toNatClampNeg a3) (z_1 + 3).toNatClampNeg a4)) := hD
        refine lv_aload_n hx hb dX1_poke_63 rfl (lv_at hl 1 rfl) ?_
        refine va_get (D := (dC, dI)) (ci := 1) (v := .ref q_memory) (C := RX1) (T := TX1) (N := 9) hx hb hts hwX hown hK hP 0 rfl rfl 0 (by decide) (hts (.fieldLink RX1 8 "StageWalkerModel" "memory" "[I") (by decide +kernel)) (fun _ h9 => h9) rfl dX1_poke_64 ?_
        refine lv_iload hx hb dX1_poke_67 (lv_at hl 0 rfl) ?_
        refine lv_iconst (v := 4) hx hb dX1_poke_69 (by decide) ?_
        refine lv_iadd hx hb dX1_poke_70 ?_
        refine lv_iload hx hb dX1_poke_71 (lv_at hl 7 rfl) ?_
        refine va_iast (cA := k_memory) (f := upd (upd (upd (upd m_memory z_1.toNatClampNeg a1) (z_1 + 1).toNatClampNeg a2) (z_1 + 2).toNatClampNeg a3) (z_1 + 3).toNatClampNeg a4) hx hb hK hP hD hS 1 0 rfl rfl (i := z_1 + 4) (x := a5) (vm_poke4 ez_1 c_1 c_13) dX1_poke_73 (fun H locs hP hD hS => ?_)
        have hP : va_P (dC, dI) vwCl (wm h0 q_memory k_memory v_atp v_vsAtp v_hgatp v_rights v_code v_found v_wanted v_ofEntry (upd (upd (upd (upd (upd m_memory z_1.toNatClampNeg a1) (z_1 + 1).toNatClampNeg a2) (z_1 + 2).toNatClampNeg a3) (z_1 + 3).toNatClampNeg a4) (z_1 + 4).toNatClampNeg a5)) H := hP
        have hD : va_D A (wm h0 q_memory k_memory v_atp v_vsAtp v_hgatp v_rights v_code v_found v_wanted v_ofEntry (upd (upd (upd (upd (upd m_memory z_1.toNatClampNeg a1) (z_1 + 1).toNatClampNeg a2) (z_1 + 2).toNatClampNeg a3) (z_1 + 3).toNatClampNeg a4) (z_1 + 4).toNatClampNeg a5)) := hD
        refine lv_iload_n hx hb dX1_poke_74 rfl (lv_at hl 2 rfl) ?_
        refine lv_bipush (v := 20) hx hb dX1_poke_75 (by decide) ?_
        refine lv_iadd hx hb dX1_poke_77 ?_
        exact W.iret (v := a0 + 20) hx hb hr (fun t ht hW => ⟨⟨_, (a0 + 20, upd (upd (upd (upd (upd m_memory z_1.toNatClampNeg a1) (z_1 + 1).toNatClampNeg a2) (z_1 + 2).toNatClampNeg a3) (z_1 + 3).toNatClampNeg a4) (z_1 + 4).toNatClampNeg a5), rfl, ⟨rfl, by subst ez_1; first | (rw [fm_poke, if_neg c_1, if_pos c_7, if_pos c_13]; done) | (simp only [fm_poke, if_neg c_1, if_pos c_7, if_pos c_13]; done) | (rw [fm_poke, if_neg c_1, if_pos c_7, if_pos c_13] <;> rfl)⟩, by rw [ht]; exact hP, va_K.moved hW.alike hK, hD⟩, hS.F ht⟩) hS.2.2 dX1_poke_78
      · skip
        refine lv_iconst (v := -1) hx hb dX1_poke_16 (by decide) ?_
        exact W.iret (v := (-1)) hx hb hr (fun t ht hW => ⟨⟨_, ((-1), m_memory), rfl, ⟨rfl, by first | (rw [fm_poke, if_neg c_1, if_pos c_7, if_neg c_13]; done) | (simp only [fm_poke, if_neg c_1, if_pos c_7, if_neg c_13]; done) | (rw [fm_poke, if_neg c_1, if_pos c_7, if_neg c_13] <;> rfl)⟩, by rw [ht]; exact hP, va_K.moved hW.alike hK, hD⟩, hS.F ht⟩) hS.2.2 dX1_poke_17
def fm_roots (a0 : Int32) (a1 : Int32) (a2 : Int32) : Int32 × Int32 × Int32 := (a0, a1, a2)
set_option maxHeartbeats 4000000 in
set_option maxRecDepth 100000 in
theorem ctm_roots (l : Launch) (dC : Nat → ClassId) (dI : Nat → Nat → Nat) (h0 : Nat) (q_memory : Nat) (k_memory : ClassId) (sz : Nat) (v_atp : Int32) (v_vsAtp : Int32) (v_hgatp : Int32) (v_rights : Int32) (v_code : Int32) (v_found : Int64) (v_wanted : Int64) (v_ofEntry : Int32) (m_memory : Nat → Int32) (a0 : Int32) (a1 : Int32) (a2 : Int32) : MWv l yX1_roots wsX1_roots ({ frames := 0, cells := 0, slots := 0, locals := 0 }) (dC, dI) vwCl [(k_memory, .int)] [.ref h0, .int a0, .int a1, .int a2] sz (wm h0 q_memory k_memory v_atp v_vsAtp v_hgatp v_rights v_code v_found v_wanted v_ofEntry m_memory) (fun u : Int32 × Int32 × Int32 => (wm h0 q_memory k_memory u.1 u.2.1 u.2.2 v_rights v_code v_found v_wanted v_ofEntry m_memory)) (fm_roots a0 a1 a2) := by
  refine Met.ofW (cc := cX1_roots) (maxL := 4) (ret := none) (by decide) rfl ?_
  intro p e s m args below meth c s₁ B hml hv
  obtain ⟨rfl, hsz, hP, hK, hD0⟩ := hv
  have hx := B.exec
  have hb := B.bytes
  have hr := B.returns
  have hts := atoms_spec (ws := wsX1_roots) B.pre
  have hown : s.vm.findClass RX1 = some m.cls := findClass_of_methodNamed B.named
  have hlocks := B.notSynchronized
  subst hsz
  have hwX : ∀ w ∈ u_ws RX1 TX1 9, w ∈ wsX1_roots := by decide +kernel
  have hD := hD0.self (sz := s.heap.size)
  generalize hAe : va_A (wm h0 q_memory k_memory v_atp v_vsAtp v_hgatp v_rights v_code v_found v_wanted v_ofEntry m_memory) s.heap.size = A at hD ⊢
  have hA : ∀ q : Nat, s.heap.size ≤ q → A q := fun q h => by rw [← hAe]; exact Or.inr h
  have hS : va_S A s.heap s.heap [] := va_S.rf
  have hP : va_P (dC, dI) vwCl (wm h0 q_memory k_memory v_atp v_vsAtp v_hgatp v_rights v_code v_found v_wanted v_ofEntry m_memory) s.heap := hP
  have hl := lv_entry ([.ref h0, .int a0, .int a1, .int a2]) (n := 4) (Nat.le_of_ble_eq_true rfl)
  rw [lg_entry_eq]
  generalize (lg_sl ([.ref h0, .int a0, .int a1, .int a2]) ++ List.replicate (4 - (lg_sl ([.ref h0, .int a0, .int a1, .int a2])).length) Slot.unset).toArray = ls at hl ⊢
  have hl : lv_has ls 4 [(0, .ref h0), (1, .int a0), (2, .int a1), (3, .int a2)] := hl
  refine lv_aload_n hx hb dX1_roots_0 rfl (lv_at hl 0 rfl) ?_
  refine lv_iload_n hx hb dX1_roots_1 rfl (lv_at hl 1 rfl) ?_
  refine va_put (D := (dC, dI)) (ci := 1) (v := .int a0) (ty := .int) (C := RX1) (T := TX1) (N := 9) hx hb hts hwX tyX1 tyX1_ok nmX1 hown hK hP hD hS 0 rfl rfl 1 (by decide) (hts (.fieldLink RX1 18 "StageWalkerModel" "atp" "I") (by decide +kernel)) (fun _ h9 => h9) rfl (by decide +kernel) rfl rfl (Nat.le_of_ble_eq_true rfl) dX1_roots_2 (fun H locs hP hD hS => ?_)
  have hP : va_P (dC, dI) vwCl (wm h0 q_memory k_memory a0 v_vsAtp v_hgatp v_rights v_code v_found v_wanted v_ofEntry m_memory) H := hP
  have hD : va_D A (wm h0 q_memory k_memory a0 v_vsAtp v_hgatp v_rights v_code v_found v_wanted v_ofEntry m_memory) := hD
  refine lv_aload_n hx hb dX1_roots_5 rfl (lv_at hl 0 rfl) ?_
  refine lv_iload_n hx hb dX1_roots_6 rfl (lv_at hl 2 rfl) ?_
  refine va_put (D := (dC, dI)) (ci := 1) (v := .int a1) (ty := .int) (C := RX1) (T := TX1) (N := 9) hx hb hts hwX tyX1 tyX1_ok nmX1 hown hK hP hD hS 0 rfl rfl 2 (by decide) (hts (.fieldLink RX1 21 "StageWalkerModel" "vsAtp" "I") (by decide +kernel)) (fun _ h9 => h9) rfl (by decide +kernel) rfl rfl (Nat.le_of_ble_eq_true rfl) dX1_roots_7 (fun H locs hP hD hS => ?_)
  have hP : va_P (dC, dI) vwCl (wm h0 q_memory k_memory a0 a1 v_hgatp v_rights v_code v_found v_wanted v_ofEntry m_memory) H := hP
  have hD : va_D A (wm h0 q_memory k_memory a0 a1 v_hgatp v_rights v_code v_found v_wanted v_ofEntry m_memory) := hD
  refine lv_aload_n hx hb dX1_roots_10 rfl (lv_at hl 0 rfl) ?_
  refine lv_iload_n hx hb dX1_roots_11 rfl (lv_at hl 3 rfl) ?_
  refine va_put (D := (dC, dI)) (ci := 1) (v := .int a2) (ty := .int) (C := RX1) (T := TX1) (N := 9) hx hb hts hwX tyX1 tyX1_ok nmX1 hown hK hP hD hS 0 rfl rfl 3 (by decide) (hts (.fieldLink RX1 24 "StageWalkerModel" "hgatp" "I") (by decide +kernel)) (fun _ h9 => h9) rfl (by decide +kernel) rfl rfl (Nat.le_of_ble_eq_true rfl) dX1_roots_12 (fun H locs hP hD hS => ?_)
  have hP : va_P (dC, dI) vwCl (wm h0 q_memory k_memory a0 a1 a2 v_rights v_code v_found v_wanted v_ofEntry m_memory) H := hP
  have hD : va_D A (wm h0 q_memory k_memory a0 a1 a2 v_rights v_code v_found v_wanted v_ofEntry m_memory) := hD
  exact W.vret hx hb hr (fun t ht hW => ⟨⟨(a0, a1, a2), rfl, by rfl, by rw [ht]; exact hP, va_K.moved hW.alike hK, hD⟩, hS.F ht⟩) hS.2.2 dX1_roots_15
def fm_rights (v_rights : Int32) (a0 : Int32) : Int32 × Int32 := (v_rights, a0 &&& 15)
set_option maxHeartbeats 4000000 in
set_option maxRecDepth 100000 in
theorem ctm_rights (l : Launch) (dC : Nat → ClassId) (dI : Nat → Nat → Nat) (h0 : Nat) (q_memory : Nat) (k_memory : ClassId) (sz : Nat) (v_atp : Int32) (v_vsAtp : Int32) (v_hgatp : Int32) (v_rights : Int32) (v_code : Int32) (v_found : Int64) (v_wanted : Int64) (v_ofEntry : Int32) (m_memory : Nat → Int32) (a0 : Int32) : MWi l yX1_rights wsX1_rights ({ frames := 0, cells := 0, slots := 0, locals := 0 }) (dC, dI) vwCl [(k_memory, .int)] [.ref h0, .int a0] sz (wm h0 q_memory k_memory v_atp v_vsAtp v_hgatp v_rights v_code v_found v_wanted v_ofEntry m_memory) (fun u : Int32 × Int32 => (wm h0 q_memory k_memory v_atp v_vsAtp v_hgatp u.2 v_code v_found v_wanted v_ofEntry m_memory)) (fun u : Int32 × Int32 => u.1) (fm_rights v_rights a0) := by
  refine Met.ofW (cc := cX1_rights) (maxL := 3) (ret := (some .int)) (by decide) rfl ?_
  intro p e s m args below meth c s₁ B hml hv
  obtain ⟨rfl, hsz, hP, hK, hD0⟩ := hv
  have hx := B.exec
  have hb := B.bytes
  have hr := B.returns
  have hts := atoms_spec (ws := wsX1_rights) B.pre
  have hown : s.vm.findClass RX1 = some m.cls := findClass_of_methodNamed B.named
  have hlocks := B.notSynchronized
  subst hsz
  have hwX : ∀ w ∈ u_ws RX1 TX1 9, w ∈ wsX1_rights := by decide +kernel
  have hD := hD0.self (sz := s.heap.size)
  generalize hAe : va_A (wm h0 q_memory k_memory v_atp v_vsAtp v_hgatp v_rights v_code v_found v_wanted v_ofEntry m_memory) s.heap.size = A at hD ⊢
  have hA : ∀ q : Nat, s.heap.size ≤ q → A q := fun q h => by rw [← hAe]; exact Or.inr h
  have hS : va_S A s.heap s.heap [] := va_S.rf
  have hP : va_P (dC, dI) vwCl (wm h0 q_memory k_memory v_atp v_vsAtp v_hgatp v_rights v_code v_found v_wanted v_ofEntry m_memory) s.heap := hP
  have hl := lv_entry ([.ref h0, .int a0]) (n := 3) (Nat.le_of_ble_eq_true rfl)
  rw [lg_entry_eq]
  generalize (lg_sl ([.ref h0, .int a0]) ++ List.replicate (3 - (lg_sl ([.ref h0, .int a0])).length) Slot.unset).toArray = ls at hl ⊢
  have hl : lv_has ls 3 [(0, .ref h0), (1, .int a0)] := hl
  refine lv_aload_n hx hb dX1_rights_0 rfl (lv_at hl 0 rfl) ?_
  refine va_get (D := (dC, dI)) (ci := 1) (v := .int v_rights) (C := RX1) (T := TX1) (N := 9) hx hb hts hwX hown hK hP 0 rfl rfl 4 (by decide) (hts (.fieldLink RX1 27 "StageWalkerModel" "rights" "I") (by decide +kernel)) (fun _ h9 => h9) rfl dX1_rights_1 ?_
  refine lv_istore_n (lv' := [(2, .int v_rights), (0, .ref h0), (1, .int a0)]) hx hb dX1_rights_4 rfl hl (by decide) rfl (fun ls hl => ?_)
  refine lv_aload_n hx hb dX1_rights_5 rfl (lv_at hl 1 rfl) ?_
  refine lv_iload_n hx hb dX1_rights_6 rfl (lv_at hl 2 rfl) ?_
  refine lv_bipush (v := 15) hx hb dX1_rights_7 (by decide) ?_
  refine lv_iand hx hb dX1_rights_9 ?_
  refine lv_topi (fun z_1 ez_1 => ?_)
  refine va_put (D := (dC, dI)) (ci := 1) (v := .int z_1) (ty := .int) (C := RX1) (T := TX1) (N := 9) hx hb hts hwX tyX1 tyX1_ok nmX1 hown hK hP hD hS 0 rfl rfl 4 (by decide) (hts (.fieldLink RX1 27 "StageWalkerModel" "rights" "I") (by decide +kernel)) (fun _ h9 => h9) rfl (by decide +kernel) rfl rfl (Nat.le_of_ble_eq_true rfl) dX1_rights_10 (fun H locs hP hD hS => ?_)
  have hP : va_P (dC, dI) vwCl (wm h0 q_memory k_memory v_atp v_vsAtp v_hgatp z_1 v_code v_found v_wanted v_ofEntry m_memory) H := hP
  have hD : va_D A (wm h0 q_memory k_memory v_atp v_vsAtp v_hgatp z_1 v_code v_found v_wanted v_ofEntry m_memory) := hD
  refine lv_iload_n hx hb dX1_rights_13 rfl (lv_at hl 0 rfl) ?_
  exact W.iret (v := v_rights) hx hb hr (fun t ht hW => ⟨⟨_, (v_rights, z_1), rfl, ⟨rfl, by subst ez_1; rfl⟩, by rw [ht]; exact hP, va_K.moved hW.alike hK, hD⟩, hS.F ht⟩) hS.2.2 dX1_rights_14
def fm_place (v_code : Int32) (v_found : Int64) : Int32 := if v_code = 0 then v_found.toInt32 else (-1)
set_option maxHeartbeats 4000000 in
set_option maxRecDepth 100000 in
theorem ctm_place (l : Launch) (dC : Nat → ClassId) (dI : Nat → Nat → Nat) (h0 : Nat) (q_memory : Nat) (k_memory : ClassId) (sz : Nat) (v_atp : Int32) (v_vsAtp : Int32) (v_hgatp : Int32) (v_rights : Int32) (v_code : Int32) (v_found : Int64) (v_wanted : Int64) (v_ofEntry : Int32) (m_memory : Nat → Int32) : MRi l yX1_place wsX1_place ({ frames := 0, cells := 0, slots := 0, locals := 0 }) (dC, dI) vwCl [(k_memory, .int)] [.ref h0] sz (wm h0 q_memory k_memory v_atp v_vsAtp v_hgatp v_rights v_code v_found v_wanted v_ofEntry m_memory) (fm_place v_code v_found) := by
  refine Met.ofW (cc := cX1_place) (maxL := 1) (ret := (some .int)) (by decide) rfl ?_
  intro p e s m args below meth c s₁ B hml hv
  obtain ⟨rfl, hsz, hP, hK, hD0⟩ := hv
  have hx := B.exec
  have hb := B.bytes
  have hr := B.returns
  have hts := atoms_spec (ws := wsX1_place) B.pre
  have hown : s.vm.findClass RX1 = some m.cls := findClass_of_methodNamed B.named
  have hlocks := B.notSynchronized
  subst hsz
  have hwX : ∀ w ∈ u_ws RX1 TX1 9, w ∈ wsX1_place := by decide +kernel
  have hD := hD0.self (sz := s.heap.size)
  generalize hAe : va_A (wm h0 q_memory k_memory v_atp v_vsAtp v_hgatp v_rights v_code v_found v_wanted v_ofEntry m_memory) s.heap.size = A at hD ⊢
  have hA : ∀ q : Nat, s.heap.size ≤ q → A q := fun q h => by rw [← hAe]; exact Or.inr h
  have hS : va_S A s.heap s.heap [] := va_S.rf
  have hP : va_P (dC, dI) vwCl (wm h0 q_memory k_memory v_atp v_vsAtp v_hgatp v_rights v_code v_found v_wanted v_ofEntry m_memory) s.heap := hP
  have hl := lv_entry ([.ref h0]) (n := 1) (Nat.le_of_ble_eq_true rfl)
  rw [lg_entry_eq]
  generalize (lg_sl ([.ref h0]) ++ List.replicate (1 - (lg_sl ([.ref h0])).length) Slot.unset).toArray = ls at hl ⊢
  have hl : lv_has ls 1 [(0, .ref h0)] := hl
  refine lv_aload_n hx hb dX1_place_0 rfl (lv_at hl 0 rfl) ?_
  refine va_get (D := (dC, dI)) (ci := 1) (v := .int v_code) (C := RX1) (T := TX1) (N := 9) hx hb hts hwX hown hK hP 0 rfl rfl 5 (by decide) (hts (.fieldLink RX1 14 "StageWalkerModel" "code" "I") (by decide +kernel)) (fun _ h9 => h9) rfl dX1_place_1 ?_
  refine lv_if_ne (tgt := 15) hx hb dX1_place_4 (by decide) (fun c_4 => ?_) (fun c_4 => ?_)
  · skip
    refine lv_iconst (v := -1) hx hb dX1_place_15 (by decide) ?_
    exact W.iret (v := (-1)) hx hb hr (fun t ht hW => ⟨⟨_, (), rfl, by first | (rw [fm_place, if_neg c_4]; done) | (simp only [fm_place, if_neg c_4]; done) | (rw [fm_place, if_neg c_4] <;> rfl), by rw [ht]; exact hP, va_K.moved hW.alike hK, hD⟩, hS.F ht⟩) hS.2.2 dX1_place_16
  · skip
    refine lv_aload_n hx hb dX1_place_7 rfl (lv_at hl 0 rfl) ?_
    refine va_get (D := (dC, dI)) (ci := 1) (v := .long v_found) (C := RX1) (T := TX1) (N := 9) hx hb hts hwX hown hK hP 0 rfl rfl 6 (by decide) (hts (.fieldLink RX1 96 "StageWalkerModel" "found" "J") (by decide +kernel)) (fun _ h9 => h9) rfl dX1_place_8 ?_
    refine lv_l2i (v := v_found.toInt32) hx hb dX1_place_11 rfl ?_
    refine lv_goto (tgt := 16) hx hb dX1_place_12 (by decide) ?_
    exact W.iret (v := v_found.toInt32) hx hb hr (fun t ht hW => ⟨⟨_, (), rfl, by first | (rw [fm_place, if_pos c_4]; done) | (simp only [fm_place, if_pos c_4]; done) | (rw [fm_place, if_pos c_4] <;> rfl), by rw [ht]; exact hP, va_K.moved hW.alike hK, hD⟩, hS.F ht⟩) hS.2.2 dX1_place_16
def fm_second (v_code : Int32) (v_wanted : Int64) : Int32 := if v_code = 20 then (jlshr v_wanted 2).toInt32 else if v_code = 21 then (jlshr v_wanted 2).toInt32 else if v_code = 23 then (jlshr v_wanted 2).toInt32 else 0
set_option maxHeartbeats 4000000 in
set_option maxRecDepth 100000 in
theorem ctm_second (l : Launch) (dC : Nat → ClassId) (dI : Nat → Nat → Nat) (h0 : Nat) (q_memory : Nat) (k_memory : ClassId) (sz : Nat) (v_atp : Int32) (v_vsAtp : Int32) (v_hgatp : Int32) (v_rights : Int32) (v_code : Int32) (v_found : Int64) (v_wanted : Int64) (v_ofEntry : Int32) (m_memory : Nat → Int32) : MRi l yX1_second wsX1_second ({ frames := 0, cells := 0, slots := 0, locals := 0 }) (dC, dI) vwCl [(k_memory, .int)] [.ref h0] sz (wm h0 q_memory k_memory v_atp v_vsAtp v_hgatp v_rights v_code v_found v_wanted v_ofEntry m_memory) (fm_second v_code v_wanted) := by
  refine Met.ofW (cc := cX1_second) (maxL := 1) (ret := (some .int)) (by decide) rfl ?_
  intro p e s m args below meth c s₁ B hml hv
  obtain ⟨rfl, hsz, hP, hK, hD0⟩ := hv
  have hx := B.exec
  have hb := B.bytes
  have hr := B.returns
  have hts := atoms_spec (ws := wsX1_second) B.pre
  have hown : s.vm.findClass RX1 = some m.cls := findClass_of_methodNamed B.named
  have hlocks := B.notSynchronized
  subst hsz
  have hwX : ∀ w ∈ u_ws RX1 TX1 9, w ∈ wsX1_second := by decide +kernel
  have hD := hD0.self (sz := s.heap.size)
  generalize hAe : va_A (wm h0 q_memory k_memory v_atp v_vsAtp v_hgatp v_rights v_code v_found v_wanted v_ofEntry m_memory) s.heap.size = A at hD ⊢
  have hA : ∀ q : Nat, s.heap.size ≤ q → A q := fun q h => by rw [← hAe]; exact Or.inr h
  have hS : va_S A s.heap s.heap [] := va_S.rf
  have hP : va_P (dC, dI) vwCl (wm h0 q_memory k_memory v_atp v_vsAtp v_hgatp v_rights v_code v_found v_wanted v_ofEntry m_memory) s.heap := hP
  have hl := lv_entry ([.ref h0]) (n := 1) (Nat.le_of_ble_eq_true rfl)
  rw [lg_entry_eq]
  generalize (lg_sl ([.ref h0]) ++ List.replicate (1 - (lg_sl ([.ref h0])).length) Slot.unset).toArray = ls at hl ⊢
  have hl : lv_has ls 1 [(0, .ref h0)] := hl
  refine lv_aload_n hx hb dX1_second_0 rfl (lv_at hl 0 rfl) ?_
  refine va_get (D := (dC, dI)) (ci := 1) (v := .int v_code) (C := RX1) (T := TX1) (N := 9) hx hb hts hwX hown hK hP 0 rfl rfl 5 (by decide) (hts (.fieldLink RX1 14 "StageWalkerModel" "code" "I") (by decide +kernel)) (fun _ h9 => h9) rfl dX1_second_1 ?_
  refine lv_bipush (v := 20) hx hb dX1_second_4 (by decide) ?_
  refine lv_icmp_eq (tgt := 27) hx hb dX1_second_6 (by decide) (fun c_6 => ?_) (fun c_6 => ?_)
  · skip
    refine lv_aload_n hx hb dX1_second_27 rfl (lv_at hl 0 rfl) ?_
    refine va_get (D := (dC, dI)) (ci := 1) (v := .long v_wanted) (C := RX1) (T := TX1) (N := 9) hx hb hts hwX hown hK hP 0 rfl rfl 7 (by decide) (hts (.fieldLink RX1 73 "StageWalkerModel" "wanted" "J") (by decide +kernel)) (fun _ h9 => h9) rfl dX1_second_28 ?_
    refine lv_iconst (v := 2) hx hb dX1_second_31 (by decide) ?_
    refine lv_lshr (v := jlshr v_wanted 2) hx hb dX1_second_32 rfl ?_
    refine lv_l2i (v := (jlshr v_wanted 2).toInt32) hx hb dX1_second_33 rfl ?_
    refine lv_goto (tgt := 38) hx hb dX1_second_34 (by decide) ?_
    exact W.iret (v := (jlshr v_wanted 2).toInt32) hx hb hr (fun t ht hW => ⟨⟨_, (), rfl, by first | (rw [fm_second, if_pos c_6]; done) | (simp only [fm_second, if_pos c_6]; done) | (rw [fm_second, if_pos c_6] <;> rfl), by rw [ht]; exact hP, va_K.moved hW.alike hK, hD⟩, hS.F ht⟩) hS.2.2 dX1_second_38
  · skip
    refine lv_aload_n hx hb dX1_second_9 rfl (lv_at hl 0 rfl) ?_
    refine va_get (D := (dC, dI)) (ci := 1) (v := .int v_code) (C := RX1) (T := TX1) (N := 9) hx hb hts hwX hown hK hP 0 rfl rfl 5 (by decide) (hts (.fieldLink RX1 14 "StageWalkerModel" "code" "I") (by decide +kernel)) (fun _ h9 => h9) rfl dX1_second_10 ?_
    refine lv_bipush (v := 21) hx hb dX1_second_13 (by decide) ?_
    refine lv_icmp_eq (tgt := 27) hx hb dX1_second_15 (by decide) (fun c_15 => ?_) (fun c_15 => ?_)
    · skip
      refine lv_aload_n hx hb dX1_second_27 rfl (lv_at hl 0 rfl) ?_
      refine va_get (D := (dC, dI)) (ci := 1) (v := .long v_wanted) (C := RX1) (T := TX1) (N := 9) hx hb hts hwX hown hK hP 0 rfl rfl 7 (by decide) (hts (.fieldLink RX1 73 "StageWalkerModel" "wanted" "J") (by decide +kernel)) (fun _ h9 => h9) rfl dX1_second_28 ?_
      refine lv_iconst (v := 2) hx hb dX1_second_31 (by decide) ?_
      refine lv_lshr (v := jlshr v_wanted 2) hx hb dX1_second_32 rfl ?_
      refine lv_l2i (v := (jlshr v_wanted 2).toInt32) hx hb dX1_second_33 rfl ?_
      refine lv_goto (tgt := 38) hx hb dX1_second_34 (by decide) ?_
      exact W.iret (v := (jlshr v_wanted 2).toInt32) hx hb hr (fun t ht hW => ⟨⟨_, (), rfl, by first | (rw [fm_second, if_neg c_6, if_pos c_15]; done) | (simp only [fm_second, if_neg c_6, if_pos c_15]; done) | (rw [fm_second, if_neg c_6, if_pos c_15] <;> rfl), by rw [ht]; exact hP, va_K.moved hW.alike hK, hD⟩, hS.F ht⟩) hS.2.2 dX1_second_38
    · skip
      refine lv_aload_n hx hb dX1_second_18 rfl (lv_at hl 0 rfl) ?_
      refine va_get (D := (dC, dI)) (ci := 1) (v := .int v_code) (C := RX1) (T := TX1) (N := 9) hx hb hts hwX hown hK hP 0 rfl rfl 5 (by decide) (hts (.fieldLink RX1 14 "StageWalkerModel" "code" "I") (by decide +kernel)) (fun _ h9 => h9) rfl dX1_second_19 ?_
      refine lv_bipush (v := 23) hx hb dX1_second_22 (by decide) ?_
      refine lv_icmp_ne (tgt := 37) hx hb dX1_second_24 (by decide) (fun c_24 => ?_) (fun c_24 => ?_)
      · skip
        refine lv_iconst (v := 0) hx hb dX1_second_37 (by decide) ?_
        exact W.iret (v := 0) hx hb hr (fun t ht hW => ⟨⟨_, (), rfl, by first | (rw [fm_second, if_neg c_6, if_neg c_15, if_neg c_24]; done) | (simp only [fm_second, if_neg c_6, if_neg c_15, if_neg c_24]; done) | (rw [fm_second, if_neg c_6, if_neg c_15, if_neg c_24] <;> rfl), by rw [ht]; exact hP, va_K.moved hW.alike hK, hD⟩, hS.F ht⟩) hS.2.2 dX1_second_38
      · skip
        refine lv_aload_n hx hb dX1_second_27 rfl (lv_at hl 0 rfl) ?_
        refine va_get (D := (dC, dI)) (ci := 1) (v := .long v_wanted) (C := RX1) (T := TX1) (N := 9) hx hb hts hwX hown hK hP 0 rfl rfl 7 (by decide) (hts (.fieldLink RX1 73 "StageWalkerModel" "wanted" "J") (by decide +kernel)) (fun _ h9 => h9) rfl dX1_second_28 ?_
        refine lv_iconst (v := 2) hx hb dX1_second_31 (by decide) ?_
        refine lv_lshr (v := jlshr v_wanted 2) hx hb dX1_second_32 rfl ?_
        refine lv_l2i (v := (jlshr v_wanted 2).toInt32) hx hb dX1_second_33 rfl ?_
        refine lv_goto (tgt := 38) hx hb dX1_second_34 (by decide) ?_
        exact W.iret (v := (jlshr v_wanted 2).toInt32) hx hb hr (fun t ht hW => ⟨⟨_, (), rfl, by first | (rw [fm_second, if_neg c_6, if_neg c_15, if_pos c_24]; done) | (simp only [fm_second, if_neg c_6, if_neg c_15, if_pos c_24]; done) | (rw [fm_second, if_neg c_6, if_neg c_15, if_pos c_24] <;> rfl), by rw [ht]; exact hP, va_K.moved hW.alike hK, hD⟩, hS.F ht⟩) hS.2.2 dX1_second_38
def fm_entry (v_code : Int32) (v_ofEntry : Int32) : Int32 := if v_code = 20 then if v_ofEntry = 0 then 0 else 1 else if v_code = 21 then if v_ofEntry = 0 then 0 else 1 else if v_code = 23 then if v_ofEntry = 0 then 0 else 1 else 0
set_option maxHeartbeats 4000000 in
set_option maxRecDepth 100000 in
theorem ctm_entry (l : Launch) (dC : Nat → ClassId) (dI : Nat → Nat → Nat) (h0 : Nat) (q_memory : Nat) (k_memory : ClassId) (sz : Nat) (v_atp : Int32) (v_vsAtp : Int32) (v_hgatp : Int32) (v_rights : Int32) (v_code : Int32) (v_found : Int64) (v_wanted : Int64) (v_ofEntry : Int32) (m_memory : Nat → Int32) : MRi l yX1_entry wsX1_entry ({ frames := 0, cells := 0, slots := 0, locals := 0 }) (dC, dI) vwCl [(k_memory, .int)] [.ref h0] sz (wm h0 q_memory k_memory v_atp v_vsAtp v_hgatp v_rights v_code v_found v_wanted v_ofEntry m_memory) (fm_entry v_code v_ofEntry) := by
  refine Met.ofW (cc := cX1_entry) (maxL := 1) (ret := (some .boolean)) (by decide) rfl ?_
  intro p e s m args below meth c s₁ B hml hv
  obtain ⟨rfl, hsz, hP, hK, hD0⟩ := hv
  have hx := B.exec
  have hb := B.bytes
  have hr := B.returns
  have hts := atoms_spec (ws := wsX1_entry) B.pre
  have hown : s.vm.findClass RX1 = some m.cls := findClass_of_methodNamed B.named
  have hlocks := B.notSynchronized
  subst hsz
  have hwX : ∀ w ∈ u_ws RX1 TX1 9, w ∈ wsX1_entry := by decide +kernel
  have hD := hD0.self (sz := s.heap.size)
  generalize hAe : va_A (wm h0 q_memory k_memory v_atp v_vsAtp v_hgatp v_rights v_code v_found v_wanted v_ofEntry m_memory) s.heap.size = A at hD ⊢
  have hA : ∀ q : Nat, s.heap.size ≤ q → A q := fun q h => by rw [← hAe]; exact Or.inr h
  have hS : va_S A s.heap s.heap [] := va_S.rf
  have hP : va_P (dC, dI) vwCl (wm h0 q_memory k_memory v_atp v_vsAtp v_hgatp v_rights v_code v_found v_wanted v_ofEntry m_memory) s.heap := hP
  have hl := lv_entry ([.ref h0]) (n := 1) (Nat.le_of_ble_eq_true rfl)
  rw [lg_entry_eq]
  generalize (lg_sl ([.ref h0]) ++ List.replicate (1 - (lg_sl ([.ref h0])).length) Slot.unset).toArray = ls at hl ⊢
  have hl : lv_has ls 1 [(0, .ref h0)] := hl
  refine lv_aload_n hx hb dX1_entry_0 rfl (lv_at hl 0 rfl) ?_
  refine va_get (D := (dC, dI)) (ci := 1) (v := .int v_code) (C := RX1) (T := TX1) (N := 9) hx hb hts hwX hown hK hP 0 rfl rfl 5 (by decide) (hts (.fieldLink RX1 14 "StageWalkerModel" "code" "I") (by decide +kernel)) (fun _ h9 => h9) rfl dX1_entry_1 ?_
  refine lv_bipush (v := 20) hx hb dX1_entry_4 (by decide) ?_
  refine lv_icmp_eq (tgt := 27) hx hb dX1_entry_6 (by decide) (fun c_6 => ?_) (fun c_6 => ?_)
  · skip
    refine lv_aload_n hx hb dX1_entry_27 rfl (lv_at hl 0 rfl) ?_
    refine va_get (D := (dC, dI)) (ci := 1) (v := .int v_ofEntry) (C := RX1) (T := TX1) (N := 9) hx hb hts hwX hown hK hP 0 rfl rfl 8 (by decide) (hts (.fieldLink RX1 77 "StageWalkerModel" "ofEntry" "Z") (by decide +kernel)) (fun _ h9 => h9) rfl dX1_entry_28 ?_
    refine lv_if_eq (tgt := 38) hx hb dX1_entry_31 (by decide) (fun c_31 => ?_) (fun c_31 => ?_)
    · skip
      refine lv_iconst (v := 0) hx hb dX1_entry_38 (by decide) ?_
      exact W.zret (v := 0) (ty := .boolean) hx hb hr nb_0 (fun t ht hW => ⟨⟨_, (), rfl, by first | (rw [fm_entry, if_pos c_6, if_pos c_31]; done) | (simp only [fm_entry, if_pos c_6, if_pos c_31]; done) | (rw [fm_entry, if_pos c_6, if_pos c_31] <;> rfl), by rw [ht]; exact hP, va_K.moved hW.alike hK, hD⟩, hS.F ht⟩) hS.2.2 dX1_entry_39
    · skip
      refine lv_iconst (v := 1) hx hb dX1_entry_34 (by decide) ?_
      refine lv_goto (tgt := 39) hx hb dX1_entry_35 (by decide) ?_
      exact W.zret (v := 1) (ty := .boolean) hx hb hr nb_1 (fun t ht hW => ⟨⟨_, (), rfl, by first | (rw [fm_entry, if_pos c_6, if_neg c_31]; done) | (simp only [fm_entry, if_pos c_6, if_neg c_31]; done) | (rw [fm_entry, if_pos c_6, if_neg c_31] <;> rfl), by rw [ht]; exact hP, va_K.moved hW.alike hK, hD⟩, hS.F ht⟩) hS.2.2 dX1_entry_39
  · skip
    refine lv_aload_n hx hb dX1_entry_9 rfl (lv_at hl 0 rfl) ?_
    refine va_get (D := (dC, dI)) (ci := 1) (v := .int v_code) (C := RX1) (T := TX1) (N := 9) hx hb hts hwX hown hK hP 0 rfl rfl 5 (by decide) (hts (.fieldLink RX1 14 "StageWalkerModel" "code" "I") (by decide +kernel)) (fun _ h9 => h9) rfl dX1_entry_10 ?_
    refine lv_bipush (v := 21) hx hb dX1_entry_13 (by decide) ?_
    refine lv_icmp_eq (tgt := 27) hx hb dX1_entry_15 (by decide) (fun c_15 => ?_) (fun c_15 => ?_)
    · skip
      refine lv_aload_n hx hb dX1_entry_27 rfl (lv_at hl 0 rfl) ?_
      refine va_get (D := (dC, dI)) (ci := 1) (v := .int v_ofEntry) (C := RX1) (T := TX1) (N := 9) hx hb hts hwX hown hK hP 0 rfl rfl 8 (by decide) (hts (.fieldLink RX1 77 "StageWalkerModel" "ofEntry" "Z") (by decide +kernel)) (fun _ h9 => h9) rfl dX1_entry_28 ?_
      refine lv_if_eq (tgt := 38) hx hb dX1_entry_31 (by decide) (fun c_31 => ?_) (fun c_31 => ?_)
      · skip
        refine lv_iconst (v := 0) hx hb dX1_entry_38 (by decide) ?_
        exact W.zret (v := 0) (ty := .boolean) hx hb hr nb_0 (fun t ht hW => ⟨⟨_, (), rfl, by first | (rw [fm_entry, if_neg c_6, if_pos c_15, if_pos c_31]; done) | (simp only [fm_entry, if_neg c_6, if_pos c_15, if_pos c_31]; done) | (rw [fm_entry, if_neg c_6, if_pos c_15, if_pos c_31] <;> rfl), by rw [ht]; exact hP, va_K.moved hW.alike hK, hD⟩, hS.F ht⟩) hS.2.2 dX1_entry_39
      · skip
        refine lv_iconst (v := 1) hx hb dX1_entry_34 (by decide) ?_
        refine lv_goto (tgt := 39) hx hb dX1_entry_35 (by decide) ?_
        exact W.zret (v := 1) (ty := .boolean) hx hb hr nb_1 (fun t ht hW => ⟨⟨_, (), rfl, by first | (rw [fm_entry, if_neg c_6, if_pos c_15, if_neg c_31]; done) | (simp only [fm_entry, if_neg c_6, if_pos c_15, if_neg c_31]; done) | (rw [fm_entry, if_neg c_6, if_pos c_15, if_neg c_31] <;> rfl), by rw [ht]; exact hP, va_K.moved hW.alike hK, hD⟩, hS.F ht⟩) hS.2.2 dX1_entry_39
    · skip
      refine lv_aload_n hx hb dX1_entry_18 rfl (lv_at hl 0 rfl) ?_
      refine va_get (D := (dC, dI)) (ci := 1) (v := .int v_code) (C := RX1) (T := TX1) (N := 9) hx hb hts hwX hown hK hP 0 rfl rfl 5 (by decide) (hts (.fieldLink RX1 14 "StageWalkerModel" "code" "I") (by decide +kernel)) (fun _ h9 => h9) rfl dX1_entry_19 ?_
      refine lv_bipush (v := 23) hx hb dX1_entry_22 (by decide) ?_
      refine lv_icmp_ne (tgt := 38) hx hb dX1_entry_24 (by decide) (fun c_24 => ?_) (fun c_24 => ?_)
      · skip
        refine lv_iconst (v := 0) hx hb dX1_entry_38 (by decide) ?_
        exact W.zret (v := 0) (ty := .boolean) hx hb hr nb_0 (fun t ht hW => ⟨⟨_, (), rfl, by first | (rw [fm_entry, if_neg c_6, if_neg c_15, if_neg c_24]; done) | (simp only [fm_entry, if_neg c_6, if_neg c_15, if_neg c_24]; done) | (rw [fm_entry, if_neg c_6, if_neg c_15, if_neg c_24] <;> rfl), by rw [ht]; exact hP, va_K.moved hW.alike hK, hD⟩, hS.F ht⟩) hS.2.2 dX1_entry_39
      · skip
        refine lv_aload_n hx hb dX1_entry_27 rfl (lv_at hl 0 rfl) ?_
        refine va_get (D := (dC, dI)) (ci := 1) (v := .int v_ofEntry) (C := RX1) (T := TX1) (N := 9) hx hb hts hwX hown hK hP 0 rfl rfl 8 (by decide) (hts (.fieldLink RX1 77 "StageWalkerModel" "ofEntry" "Z") (by decide +kernel)) (fun _ h9 => h9) rfl dX1_entry_28 ?_
        refine lv_if_eq (tgt := 38) hx hb dX1_entry_31 (by decide) (fun c_31 => ?_) (fun c_31 => ?_)
        · skip
          refine lv_iconst (v := 0) hx hb dX1_entry_38 (by decide) ?_
          exact W.zret (v := 0) (ty := .boolean) hx hb hr nb_0 (fun t ht hW => ⟨⟨_, (), rfl, by first | (rw [fm_entry, if_neg c_6, if_neg c_15, if_pos c_24, if_pos c_31]; done) | (simp only [fm_entry, if_neg c_6, if_neg c_15, if_pos c_24, if_pos c_31]; done) | (rw [fm_entry, if_neg c_6, if_neg c_15, if_pos c_24, if_pos c_31] <;> rfl), by rw [ht]; exact hP, va_K.moved hW.alike hK, hD⟩, hS.F ht⟩) hS.2.2 dX1_entry_39
        · skip
          refine lv_iconst (v := 1) hx hb dX1_entry_34 (by decide) ?_
          refine lv_goto (tgt := 39) hx hb dX1_entry_35 (by decide) ?_
          exact W.zret (v := 1) (ty := .boolean) hx hb hr nb_1 (fun t ht hW => ⟨⟨_, (), rfl, by first | (rw [fm_entry, if_neg c_6, if_neg c_15, if_pos c_24, if_neg c_31]; done) | (simp only [fm_entry, if_neg c_6, if_neg c_15, if_pos c_24, if_neg c_31]; done) | (rw [fm_entry, if_neg c_6, if_neg c_15, if_pos c_24, if_neg c_31] <;> rfl), by rw [ht]; exact hP, va_K.moved hW.alike hK, hD⟩, hS.F ht⟩) hS.2.2 dX1_entry_39
