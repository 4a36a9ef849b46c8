/-! StageWalker.walkFirst, lead -/
def fx_walkFirst (v_hgatp : Int32) (v_rights : Int32) (v_refusedAddress : Int64) (v_refusedEntry : Int32) (m_words : Nat → Int32) (a0 : Int32) (a1 : Int32) (a2 : Int64) (a3 : Int32) : Int64 × Int64 × Int32 := if ((fx_entryAt m_words a1 ((fx_throughSecond v_hgatp v_rights v_refusedAddress v_refusedEntry m_words a0 a1 ((fx_upperEntry (a3 &&& 4194303) a2)) 1).1))) < 0 then ((fx_entryAt m_words a1 ((fx_throughSecond v_hgatp v_rights v_refusedAddress v_refusedEntry m_words a0 a1 ((fx_upperEntry (a3 &&& 4194303) a2)) 1).1)), (fx_throughSecond v_hgatp v_rights v_refusedAddress v_refusedEntry m_words a0 a1 ((fx_upperEntry (a3 &&& 4194303) a2)) 1).2.1, (fx_throughSecond v_hgatp v_rights v_refusedAddress v_refusedEntry m_words a0 a1 ((fx_upperEntry (a3 &&& 4194303) a2)) 1).2.2) else if ((if ((fx_isTable ((fx_entryAt m_words a1 ((fx_throughSecond v_hgatp v_rights v_refusedAddress v_refusedEntry m_words a0 a1 ((fx_upperEntry (a3 &&& 4194303) a2)) 1).1))))) = 0 then 1 else 0 : Int32)) = 0 then if ((fx_entryAt m_words a1 ((fx_throughSecond v_hgatp v_rights ((fx_throughSecond v_hgatp v_rights v_refusedAddress v_refusedEntry m_words a0 a1 ((fx_upperEntry (a3 &&& 4194303) a2)) 1).2.1) ((fx_throughSecond v_hgatp v_rights v_refusedAddress v_refusedEntry m_words a0 a1 ((fx_upperEntry (a3 &&& 4194303) a2)) 1).2.2) m_words a0 a1 ((fx_lowerEntry ((fx_entryAt m_words a1 ((fx_throughSecond v_hgatp v_rights v_refusedAddress v_refusedEntry m_words a0 a1 ((fx_upperEntry (a3 &&& 4194303) a2)) 1).1))) a2)) 1).1))) < 0 then ((fx_entryAt m_words a1 ((fx_throughSecond v_hgatp v_rights ((fx_throughSecond v_hgatp v_rights v_refusedAddress v_refusedEntry m_words a0 a1 ((fx_upperEntry (a3 &&& 4194303) a2)) 1).2.1) ((fx_throughSecond v_hgatp v_rights v_refusedAddress v_refusedEntry m_words a0 a1 ((fx_upperEntry (a3 &&& 4194303) a2)) 1).2.2) m_words a0 a1 ((fx_lowerEntry ((fx_entryAt m_words a1 ((fx_throughSecond v_hgatp v_rights v_refusedAddress v_refusedEntry m_words a0 a1 ((fx_upperEntry (a3 &&& 4194303) a2)) 1).1))) a2)) 1).1)), (fx_throughSecond v_hgatp v_rights ((fx_throughSecond v_hgatp v_rights v_refusedAddress v_refusedEntry m_words a0 a1 ((fx_upperEntry (a3 &&& 4194303) a2)) 1).2.1) ((fx_throughSecond v_hgatp v_rights v_refusedAddress v_refusedEntry m_words a0 a1 ((fx_upperEntry (a3 &&& 4194303) a2)) 1).2.2) m_words a0 a1 ((fx_lowerEntry ((fx_entryAt m_words a1 ((fx_throughSecond v_hgatp v_rights v_refusedAddress v_refusedEntry m_words a0 a1 ((fx_upperEntry (a3 &&& 4194303) a2)) 1).1))) a2)) 1).2.1, (fx_throughSecond v_hgatp v_rights ((fx_throughSecond v_hgatp v_rights v_refusedAddress v_refusedEntry m_words a0 a1 ((fx_upperEntry (a3 &&& 4194303) a2)) 1).2.1) ((fx_throughSecond v_hgatp v_rights v_refusedAddress v_refusedEntry m_words a0 a1 ((fx_upperEntry (a3 &&& 4194303) a2)) 1).2.2) m_words a0 a1 ((fx_lowerEntry ((fx_entryAt m_words a1 ((fx_throughSecond v_hgatp v_rights v_refusedAddress v_refusedEntry m_words a0 a1 ((fx_upperEntry (a3 &&& 4194303) a2)) 1).1))) a2)) 1).2.2) else if ((if ((fx_isGoodLeaf ((fx_entryAt m_words a1 ((fx_throughSecond v_hgatp v_rights ((fx_throughSecond v_hgatp v_rights v_refusedAddress v_refusedEntry m_words a0 a1 ((fx_upperEntry (a3 &&& 4194303) a2)) 1).2.1) ((fx_throughSecond v_hgatp v_rights v_refusedAddress v_refusedEntry m_words a0 a1 ((fx_upperEntry (a3 &&& 4194303) a2)) 1).2.2) m_words a0 a1 ((fx_lowerEntry ((fx_entryAt m_words a1 ((fx_throughSecond v_hgatp v_rights v_refusedAddress v_refusedEntry m_words a0 a1 ((fx_upperEntry (a3 &&& 4194303) a2)) 1).1))) a2)) 1).1))) ((if ((fx_isTable ((fx_entryAt m_words a1 ((fx_throughSecond v_hgatp v_rights v_refusedAddress v_refusedEntry m_words a0 a1 ((fx_upperEntry (a3 &&& 4194303) a2)) 1).1))))) = 0 then 1 else 0 : Int32)))) = 0 then 0 else if ((fx_firstAllows v_rights a0 a1 ((fx_entryAt m_words a1 ((fx_throughSecond v_hgatp v_rights ((fx_throughSecond v_hgatp v_rights v_refusedAddress v_refusedEntry m_words a0 a1 ((fx_upperEntry (a3 &&& 4194303) a2)) 1).2.1) ((fx_throughSecond v_hgatp v_rights v_refusedAddress v_refusedEntry m_words a0 a1 ((fx_upperEntry (a3 &&& 4194303) a2)) 1).2.2) m_words a0 a1 ((fx_lowerEntry ((fx_entryAt m_words a1 ((fx_throughSecond v_hgatp v_rights v_refusedAddress v_refusedEntry m_words a0 a1 ((fx_upperEntry (a3 &&& 4194303) a2)) 1).1))) a2)) 1).1))))) = 0 then 0 else 1 : Int32)) = 0 then ((fx_firstFault a1), (fx_throughSecond v_hgatp v_rights ((fx_throughSecond v_hgatp v_rights v_refusedAddress v_refusedEntry m_words a0 a1 ((fx_upperEntry (a3 &&& 4194303) a2)) 1).2.1) ((fx_throughSecond v_hgatp v_rights v_refusedAddress v_refusedEntry m_words a0 a1 ((fx_upperEntry (a3 &&& 4194303) a2)) 1).2.2) m_words a0 a1 ((fx_lowerEntry ((fx_entryAt m_words a1 ((fx_throughSecond v_hgatp v_rights v_refusedAddress v_refusedEntry m_words a0 a1 ((fx_upperEntry (a3 &&& 4194303) a2)) 1).1))) a2)) 1).2.1, (fx_throughSecond v_hgatp v_rights ((fx_throughSecond v_hgatp v_rights v_refusedAddress v_refusedEntry m_words a0 a1 ((fx_upperEntry (a3 &&& 4194303) a2)) 1).2.1) ((fx_throughSecond v_hgatp v_rights v_refusedAddress v_refusedEntry m_words a0 a1 ((fx_upperEntry (a3 &&& 4194303) a2)) 1).2.2) m_words a0 a1 ((fx_lowerEntry ((fx_entryAt m_words a1 ((fx_throughSecond v_hgatp v_rights v_refusedAddress v_refusedEntry m_words a0 a1 ((fx_upperEntry (a3 &&& 4194303) a2)) 1).1))) a2)) 1).2.2) else ((fx_result ((fx_entryAt m_words a1 ((fx_throughSecond v_hgatp v_rights ((fx_throughSecond v_hgatp v_rights v_refusedAddress v_refusedEntry m_words a0 a1 ((fx_upperEntry (a3 &&& 4194303) a2)) 1).2.1) ((fx_throughSecond v_hgatp v_rights v_refusedAddress v_refusedEntry m_words a0 a1 ((fx_upperEntry (a3 &&& 4194303) a2)) 1).2.2) m_words a0 a1 ((fx_lowerEntry ((fx_entryAt m_words a1 ((fx_throughSecond v_hgatp v_rights v_refusedAddress v_refusedEntry m_words a0 a1 ((fx_upperEntry (a3 &&& 4194303) a2)) 1).1))) a2)) 1).1))) ((if ((fx_isTable ((fx_entryAt m_words a1 ((fx_throughSecond v_hgatp v_rights v_refusedAddress v_refusedEntry m_words a0 a1 ((fx_upperEntry (a3 &&& 4194303) a2)) 1).1))))) = 0 then 1 else 0 : Int32)) a2), (fx_throughSecond v_hgatp v_rights ((fx_throughSecond v_hgatp v_rights v_refusedAddress v_refusedEntry m_words a0 a1 ((fx_upperEntry (a3 &&& 4194303) a2)) 1).2.1) ((fx_throughSecond v_hgatp v_rights v_refusedAddress v_refusedEntry m_words a0 a1 ((fx_upperEntry (a3 &&& 4194303) a2)) 1).2.2) m_words a0 a1 ((fx_lowerEntry ((fx_entryAt m_words a1 ((fx_throughSecond v_hgatp v_rights v_refusedAddress v_refusedEntry m_words a0 a1 ((fx_upperEntry (a3 &&& 4194303) a2)) 1).1))) a2)) 1).2.1, (fx_throughSecond v_hgatp v_rights ((fx_throughSecond v_hgatp v_rights v_refusedAddress v_refusedEntry m_words a0 a1 ((fx_upperEntry (a3 &&& 4194303) a2)) 1).2.1) ((fx_throughSecond v_hgatp v_rights v_refusedAddress v_refusedEntry m_words a0 a1 ((fx_upperEntry (a3 &&& 4194303) a2)) 1).2.2) m_words a0 a1 ((fx_lowerEntry ((fx_entryAt m_words a1 ((fx_throughSecond v_hgatp v_rights v_refusedAddress v_refusedEntry m_words a0 a1 ((fx_upperEntry (a3 &&& 4194303) a2)) 1).1))) a2)) 1).2.2) else if ((if ((fx_isGoodLeaf ((fx_entryAt m_words a1 ((fx_throughSecond v_hgatp v_rights v_refusedAddress v_refusedEntry m_words a0 a1 ((fx_upperEntry (a3 &&& 4194303) a2)) 1).1))) ((if ((fx_isTable ((fx_entryAt m_words a1 ((fx_throughSecond v_hgatp v_rights v_refusedAddress v_refusedEntry m_words a0 a1 ((fx_upperEntry (a3 &&& 4194303) a2)) 1).1))))) = 0 then 1 else 0 : Int32)))) = 0 then 0 else if ((fx_firstAllows v_rights a0 a1 ((fx_entryAt m_words a1 ((fx_throughSecond v_hgatp v_rights v_refusedAddress v_refusedEntry m_words a0 a1 ((fx_upperEntry (a3 &&& 4194303) a2)) 1).1))))) = 0 then 0 else 1 : Int32)) = 0 then ((fx_firstFault a1), (fx_throughSecond v_hgatp v_rights v_refusedAddress v_refusedEntry m_words a0 a1 ((fx_upperEntry (a3 &&& 4194303) a2)) 1).2.1, (fx_throughSecond v_hgatp v_rights v_refusedAddress v_refusedEntry m_words a0 a1 ((fx_upperEntry (a3 &&& 4194303) a2)) 1).2.2) else ((fx_result ((fx_entryAt m_words a1 ((fx_throughSecond v_hgatp v_rights v_refusedAddress v_refusedEntry m_words a0 a1 ((fx_upperEntry (a3 &&& 4194303) a2)) 1).1))) ((if ((fx_isTable ((fx_entryAt m_words a1 ((fx_throughSecond v_hgatp v_rights v_refusedAddress v_refusedEntry m_words a0 a1 ((fx_upperEntry (a3 &&& 4194303) a2)) 1).1))))) = 0 then 1 else 0 : Int32)) a2), (fx_throughSecond v_hgatp v_rights v_refusedAddress v_refusedEntry m_words a0 a1 ((fx_upperEntry (a3 &&& 4194303) a2)) 1).2.1, (fx_throughSecond v_hgatp v_rights v_refusedAddress v_refusedEntry m_words a0 a1 ((fx_upperEntry (a3 &&& 4194303) a2)) 1).2.2)
set_option maxHeartbeats 4000000 in
set_option maxRecDepth 100000 in
theorem ctx_walkFirst (l : Launch) (dC : Nat → ClassId) (dI : Nat → Nat → Nat) (h0 : Nat) (q_words : Nat) (k_words : ClassId) (sz : Nat) (v_atp : Int32) (v_vsAtp : Int32) (v_hgatp : Int32) (v_rights : Int32) (v_latestPlace : Int32) (v_latestSecond : Int32) (v_latestEntry : Int32) (v_refusedAddress : Int64) (v_refusedEntry : Int32) (m_words : Nat → Int32) (a0 : Int32) (a1 : Int32) (a2 : Int64) (a3 : Int32) : MWl l yX0_walkFirst wsX0_walkFirst ({ frames := 4, cells := 0, slots := 0, locals := 101 }) (dC, dI) vwCl [(k_words, .int)] [.ref h0, .int a0, .int a1, .long a2, .int a3] sz (wx h0 q_words k_words v_atp v_vsAtp v_hgatp v_rights v_latestPlace v_latestSecond v_latestEntry v_refusedAddress v_refusedEntry m_words) (fun u : Int64 × Int64 × Int32 => (wx h0 q_words k_words v_atp v_vsAtp v_hgatp v_rights v_latestPlace v_latestSecond v_latestEntry u.2.1 u.2.2 m_words)) (fun u : Int64 × Int64 × Int32 => u.1) (fx_walkFirst v_hgatp v_rights v_refusedAddress v_refusedEntry m_words a0 a1 a2 a3) := by
  refine Met.ofW (cc := cX0_walkFirst) (maxL := 12) (ret := (some .long)) (by decide) rfl ?_
  intro p e s m args below meth c s₁ B hml hv
  obtain ⟨rfl, hsz, hP, hK, hD0⟩ := hv
  have hx := B.exec
  have hb := B.bytes
  have hr := B.returns
  have hts := atoms_spec (ws := wsX0_walkFirst) B.pre
  have hown : s.vm.findClass RX0 = some m.cls := findClass_of_methodNamed B.named
  have hlocks := B.notSynchronized
  subst hsz
  have hD := hD0.self (sz := s.heap.size)
  generalize hAe : va_A (wx h0 q_words k_words v_atp v_vsAtp v_hgatp v_rights v_latestPlace v_latestSecond v_latestEntry v_refusedAddress v_refusedEntry m_words) s.heap.size = A at hD ⊢
  have hA : ∀ q : Nat, s.heap.size ≤ q → A q := fun q h => by rw [← hAe]; exact Or.inr h
  have hS : va_S A s.heap s.heap [] := va_S.rf
  have hP : va_P (dC, dI) vwCl (wx h0 q_words k_words v_atp v_vsAtp v_hgatp v_rights v_latestPlace v_latestSecond v_latestEntry v_refusedAddress v_refusedEntry m_words) s.heap := hP
  have hl := lv_entry ([.ref h0, .int a0, .int a1, .long a2, .int a3]) (n := 12) (Nat.le_of_ble_eq_true rfl)
  rw [lg_entry_eq]
  generalize (lg_sl ([.ref h0, .int a0, .int a1, .long a2, .int a3]) ++ List.replicate (12 - (lg_sl ([.ref h0, .int a0, .int a1, .long a2, .int a3])).length) Slot.unset).toArray = ls at hl ⊢
  have hl : lv_has ls 12 [(0, .ref h0), (1, .int a0), (2, .int a1), (3, .long a2), (5, .int a3)] := hl
  refine lv_iload hx hb dX0_walkFirst_0 (lv_at hl 4 rfl) ?_
  refine lv_ldc hx hb hown (hts (.constant RX0 92 4194303) (by decide +kernel)) dX0_walkFirst_2 ?_
  refine lv_iand hx hb dX0_walkFirst_4 ?_
  refine lv_lload_n hx hb dX0_walkFirst_5 rfl (lv_at hl 3 rfl) ?_
  refine cs_l (va_runS (As := [.int (a3 &&& 4194303), .long a2]) (rest := []) ⟨hx, hb, hml, hown, hts⟩ (ctx_upperEntry l s.heap.size (a3 &&& 4194303) a2) (va_cwS 2 hts gX0_walkFirst_X0_upperEntry rfl rfl rfl (by decide +kernel) ⟨Nat.le_of_ble_eq_true rfl, Nat.le_of_ble_eq_true rfl⟩) ⟨fun a U g mk q => q, fun U hU hW => ⟨rfl, congrArg Array.size hU⟩⟩ rfl rfl hl.1 rfl (lv_room (Nat.le_of_ble_eq_true rfl)) dX0_walkFirst_6 ⟨Nat.zero_le _, Nat.zero_le _⟩) hA hP hS (fun H locs hP hS => ?_)
  refine lv_topl (fun z_1 ez_1 => ?_)
  refine lv_lstore (lv' := [(6, .long z_1), (0, .ref h0), (1, .int a0), (2, .int a1), (3, .long a2), (5, .int a3)]) hx hb dX0_walkFirst_9 hl (by decide) rfl (fun ls hl => ?_)
  refine lv_aload_n hx hb dX0_walkFirst_11 rfl (lv_at hl 1 rfl) ?_
  refine lv_iload_n hx hb dX0_walkFirst_12 rfl (lv_at hl 3 rfl) ?_
  refine lv_aload_n hx hb dX0_walkFirst_13 rfl (lv_at hl 1 rfl) ?_
  refine lv_iload_n hx hb dX0_walkFirst_14 rfl (lv_at hl 2 rfl) ?_
  refine lv_iload_n hx hb dX0_walkFirst_15 rfl (lv_at hl 3 rfl) ?_
  refine lv_lload hx hb dX0_walkFirst_16 (lv_at hl 0 rfl) ?_
  refine lv_iconst (v := 1) hx hb dX0_walkFirst_18 (by decide) ?_
  refine cw_l (va_runV (As := [.int a0, .int a1, .long z_1, .int 1]) (rest := [.int a1, .ref h0]) ⟨hx, hb, hml, hown, hts⟩ (ctx_throughSecond l dC dI h0 q_words k_words H.size v_atp v_vsAtp v_hgatp v_rights v_latestPlace v_latestSecond v_latestEntry v_refusedAddress v_refusedEntry m_words a0 a1 z_1 1 (Or.inr rfl)) (cwV 4 hts gX0_walkFirst_X0_throughSecond rfl rfl rfl (by decide +kernel) ⟨Nat.le_of_ble_eq_true rfl, Nat.le_of_ble_eq_true rfl⟩) ⟨fun a U g mk q => ⟨q.1, q.2.1, q.2.2.1, va_K.moved (u := U) (U := U.calling g mk a) (Vm.Alike.refl U.vm) q.2.2.2.1, q.2.2.2.2⟩, va_recv hK hP (ci := 0) (q0 := 0) rfl rfl, fun U hU hW => ⟨rfl, by rw [hU], by rw [hU]; exact hP, va_K.moved hW.alike hK, hD.weaken (fun _ _ _ _ => trivial)⟩⟩ rfl rfl hl.1 rfl (lv_room (Nat.le_of_ble_eq_true rfl)) dX0_walkFirst_19 ⟨Nat.zero_le _, Nat.zero_le _⟩) hA hD hP hS (fun o_2 H locs eo_2 hP hD hS => ?_)
  have hP : va_P (dC, dI) vwCl (wx h0 q_words k_words v_atp v_vsAtp v_hgatp v_rights v_latestPlace v_latestSecond v_latestEntry o_2.2.1 o_2.2.2 m_words) H := hP
  have hD : va_D A (wx h0 q_words k_words v_atp v_vsAtp v_hgatp v_rights v_latestPlace v_latestSecond v_latestEntry o_2.2.1 o_2.2.2 m_words) := hD
  refine cr_l (va_runV (As := [.int a1, .long o_2.1]) (rest := []) ⟨hx, hb, hml, hown, hts⟩ (ctx_entryAt l dC dI h0 q_words k_words H.size v_atp v_vsAtp v_hgatp v_rights v_latestPlace v_latestSecond v_latestEntry o_2.2.1 o_2.2.2 m_words a1 o_2.1) (cwV 2 hts gX0_walkFirst_X0_entryAt rfl rfl rfl (by decide +kernel) ⟨Nat.le_of_ble_eq_true rfl, Nat.le_of_ble_eq_true rfl⟩) ⟨fun a U g mk q => ⟨q.1, q.2.1, q.2.2.1, va_K.moved (u := U) (U := U.calling g mk a) (Vm.Alike.refl U.vm) q.2.2.2.1, q.2.2.2.2⟩, va_recv hK hP (ci := 0) (q0 := 0) rfl rfl, fun U hU hW => ⟨rfl, by rw [hU], by rw [hU]; exact hP, va_K.moved hW.alike hK, hD.weaken (fun _ _ _ _ => trivial)⟩⟩ rfl rfl hl.1 rfl (lv_room (Nat.le_of_ble_eq_true rfl)) dX0_walkFirst_22 ⟨Nat.zero_le _, Nat.zero_le _⟩) hA hD hP hS (fun H locs hP hS => ?_)
  refine lv_topl (fun z_3 ez_3 => ?_)
  refine lv_lstore (lv' := [(8, .long z_3), (6, .long z_1), (0, .ref h0), (1, .int a0), (2, .int a1), (3, .long a2), (5, .int a3)]) hx hb dX0_walkFirst_25 hl (by decide) rfl (fun ls hl => ?_)
  refine lv_lload hx hb dX0_walkFirst_27 (lv_at hl 0 rfl) ?_
  refine cs_i (va_runS (As := [.long z_3]) (rest := []) ⟨hx, hb, hml, hown, hts⟩ (ctx_isTable l H.size z_3) (va_cwS 1 hts gX0_walkFirst_X0_isTable rfl rfl rfl (by decide +kernel) ⟨Nat.le_of_ble_eq_true rfl, Nat.le_of_ble_eq_true rfl⟩) ⟨fun a U g mk q => q, fun U hU hW => ⟨rfl, congrArg Array.size hU⟩⟩ rfl rfl hl.1 rfl (lv_room (Nat.le_of_ble_eq_true rfl)) dX0_walkFirst_29 ⟨Nat.zero_le _, Nat.zero_le _⟩) hA hP hS (fun H locs hP hS => ?_)
  refine lj_i (j := 40) (z0 := if ((fx_isTable z_3)) = 0 then 1 else 0) (rest := []) hP hS (fun H locs hP hS z_4 ez_4 => ?_) (fun J40_32 => ?_)
  · skip
    have oz_4 : z_4 = 0 ∨ z_4 = 1 := by rw [ez_4]; exact ite01 (Or.inr rfl) (Or.inl rfl)
    refine lv_istore (lv' := [(10, .int z_4), (8, .long z_3), (6, .long z_1), (0, .ref h0), (1, .int a0), (2, .int a1), (3, .long a2), (5, .int a3)]) hx hb dX0_walkFirst_40 hl (by decide) rfl (fun ls hl => ?_)
    refine lv_lload hx hb dX0_walkFirst_42 (lv_at hl 1 rfl) ?_
    refine lv_lconst (v := 0) hx hb dX0_walkFirst_44 (by decide) ?_
    refine lq_lt (tgt := 78) hx hb dX0_walkFirst_45 dX0_walkFirst_46 (by decide) (fun c_46 => ?_) (fun c_46 => ?_)
    · skip
      refine lv_lload hx hb dX0_walkFirst_78 (lv_at hl 1 rfl) ?_
      refine lv_lconst (v := 0) hx hb dX0_walkFirst_80 (by decide) ?_
      refine lq_ge (tgt := 88) hx hb dX0_walkFirst_81 dX0_walkFirst_82 (by decide) (fun c_82 => ?_) (fun c_82 => ?_)
      · skip
        exact absurd c_46 c_82
      · skip
        refine lv_lload hx hb dX0_walkFirst_85 (lv_at hl 1 rfl) ?_
        exact W.lret (v := z_3) hx hb hr (fun t ht hW => ⟨⟨_, (z_3, o_2.2.1, o_2.2.2), rfl, ⟨rfl, by subst ez_4; subst ez_3; subst eo_2; subst ez_1; first | (rw [fx_walkFirst, if_pos c_46]; done) | (simp only [fx_walkFirst, if_pos c_46]; done) | (rw [fx_walkFirst, if_pos c_46] <;> rfl)⟩, by rw [ht]; exact hP, va_K.moved hW.alike hK, hD⟩, hS.F ht⟩) hS.2.2 dX0_walkFirst_87
    · skip
      refine lv_iload hx hb dX0_walkFirst_49 (lv_at hl 0 rfl) ?_
      refine lv_if_ne (tgt := 78) hx hb dX0_walkFirst_51 (by decide) (fun c_51 => ?_) (fun c_51 => ?_)
      · skip
        refine lv_lload hx hb dX0_walkFirst_78 (lv_at hl 1 rfl) ?_
        refine lv_lconst (v := 0) hx hb dX0_walkFirst_80 (by decide) ?_
        refine lq_ge (tgt := 88) hx hb dX0_walkFirst_81 dX0_walkFirst_82 (by decide) (fun c_82 => ?_) (fun c_82 => ?_)
        · skip
          refine lv_lload hx hb dX0_walkFirst_88 (lv_at hl 1 rfl) ?_
          refine lv_iload hx hb dX0_walkFirst_90 (lv_at hl 0 rfl) ?_
          refine cs_i (va_runS (As := [.long z_3, .int z_4]) (rest := []) ⟨hx, hb, hml, hown, hts⟩ (ctx_isGoodLeaf l H.size z_3 z_4) (va_cwS 2 hts gX0_walkFirst_X0_isGoodLeaf rfl rfl rfl (by decide +kernel) ⟨Nat.le_of_ble_eq_true rfl, Nat.le_of_ble_eq_true rfl⟩) ⟨fun a U g mk q => q, fun U hU hW => ⟨rfl, congrArg Array.size hU⟩⟩ rfl rfl hl.1 rfl (lv_room (Nat.le_of_ble_eq_true rfl)) dX0_walkFirst_92 ⟨Nat.zero_le _, Nat.zero_le _⟩) hA hP hS (fun H locs hP hS => ?_)
          refine lj_i (j := 114) (z0 := if ((fx_isGoodLeaf z_3 z_4)) = 0 then 0 else if ((fx_firstAllows v_rights a0 a1 z_3)) = 0 then 0 else 1) (rest := []) hP hS (fun H locs hP hS z_5 ez_5 => ?_) (fun J114_95 => ?_)
          · skip
            have oz_5 : z_5 = 0 ∨ z_5 = 1 := by rw [ez_5]; exact ite01 (Or.inl rfl) (ite01 (Or.inl rfl) (Or.inr rfl))
            refine lv_istore (lv' := [(11, .int z_5), (10, .int z_4), (8, .long z_3), (6, .long z_1), (0, .ref h0), (1, .int a0), (2, .int a1), (3, .long a2), (5, .int a3)]) hx hb dX0_walkFirst_114 hl (by decide) rfl (fun ls hl => ?_)
            refine lv_iload hx hb dX0_walkFirst_116 (lv_at hl 0 rfl) ?_
            refine lv_if_eq (tgt := 132) hx hb dX0_walkFirst_118 (by decide) (fun c_118 => ?_) (fun c_118 => ?_)
            · skip
              refine lv_iload_n hx hb dX0_walkFirst_132 rfl (lv_at hl 6 rfl) ?_
              refine cs_l (va_runS (As := [.int a1]) (rest := []) ⟨hx, hb, hml, hown, hts⟩ (ctx_firstFault l H.size a1) (va_cwS 1 hts gX0_walkFirst_X0_firstFault rfl rfl rfl (by decide +kernel) ⟨Nat.le_of_ble_eq_true rfl, Nat.le_of_ble_eq_true rfl⟩) ⟨fun a U g mk q => q, fun U hU hW => ⟨rfl, congrArg Array.size hU⟩⟩ rfl rfl hl.1 rfl (lv_room (Nat.le_of_ble_eq_true rfl)) dX0_walkFirst_133 ⟨Nat.zero_le _, Nat.zero_le _⟩) hA hP hS (fun H locs hP hS => ?_)
              exact W.lret (v := (fx_firstFault a1)) hx hb hr (fun t ht hW => ⟨⟨_, ((fx_firstFault a1), o_2.2.1, o_2.2.2), rfl, ⟨rfl, by subst ez_5; subst ez_4; subst ez_3; subst eo_2; subst ez_1; first | (rw [fx_walkFirst, if_neg c_46, if_neg c_51, if_pos c_118]; done) | (simp only [fx_walkFirst, if_neg c_46, if_neg c_51, if_pos c_118]; done) | (rw [fx_walkFirst, if_neg c_46, if_neg c_51, if_pos c_118] <;> rfl)⟩, by rw [ht]; exact hP, va_K.moved hW.alike hK, hD⟩, hS.F ht⟩) hS.2.2 dX0_walkFirst_136
            · skip
              refine lv_lload hx hb dX0_walkFirst_121 (lv_at hl 2 rfl) ?_
              refine lv_iload hx hb dX0_walkFirst_123 (lv_at hl 1 rfl) ?_
              refine lv_lload_n hx hb dX0_walkFirst_125 rfl (lv_at hl 7 rfl) ?_
              refine cs_l (va_runS (As := [.long z_3, .int z_4, .long a2]) (rest := []) ⟨hx, hb, hml, hown, hts⟩ (ctx_result l H.size z_3 z_4 a2) (va_cwS 3 hts gX0_walkFirst_X0_result rfl rfl rfl (by decide +kernel) ⟨Nat.le_of_ble_eq_true rfl, Nat.le_of_ble_eq_true rfl⟩) ⟨fun a U g mk q => q, fun U hU hW => ⟨rfl, congrArg Array.size hU⟩⟩ rfl rfl hl.1 rfl (lv_room (Nat.le_of_ble_eq_true rfl)) dX0_walkFirst_126 ⟨Nat.zero_le _, Nat.zero_le _⟩) hA hP hS (fun H locs hP hS => ?_)
              refine lv_goto (tgt := 136) hx hb dX0_walkFirst_129 (by decide) ?_
              exact W.lret (v := (fx_result z_3 z_4 a2)) hx hb hr (fun t ht hW => ⟨⟨_, ((fx_result z_3 z_4 a2), o_2.2.1, o_2.2.2), rfl, ⟨rfl, by subst ez_5; subst ez_4; subst ez_3; subst eo_2; subst ez_1; first | (rw [fx_walkFirst, if_neg c_46, if_neg c_51, if_neg c_118]; done) | (simp only [fx_walkFirst, if_neg c_46, if_neg c_51, if_neg c_118]; done) | (rw [fx_walkFirst, if_neg c_46, if_neg c_51, if_neg c_118] <;> rfl)⟩, by rw [ht]; exact hP, va_K.moved hW.alike hK, hD⟩, hS.F ht⟩) hS.2.2 dX0_walkFirst_136
          · skip
            refine lv_if_eq (tgt := 113) hx hb dX0_walkFirst_95 (by decide) (fun c_95 => ?_) (fun c_95 => ?_)
            · skip
              refine lv_iconst (v := 0) hx hb dX0_walkFirst_113 (by decide) ?_
              exact W.eq (by rw [if_pos c_95] <;> rfl) (J114_95 _ _ hP hS)
            · skip
              refine lv_aload_n hx hb dX0_walkFirst_98 rfl (lv_at hl 3 rfl) ?_
              refine lv_iload_n hx hb dX0_walkFirst_99 rfl (lv_at hl 4 rfl) ?_
              refine lv_iload_n hx hb dX0_walkFirst_100 rfl (lv_at hl 5 rfl) ?_
              refine lv_lload hx hb dX0_walkFirst_101 (lv_at hl 1 rfl) ?_
              refine cr_i (va_runV (As := [.int a0, .int a1, .long z_3]) (rest := []) ⟨hx, hb, hml, hown, hts⟩ (ctx_firstAllows l dC dI h0 q_words k_words H.size v_atp v_vsAtp v_hgatp v_rights v_latestPlace v_latestSecond v_latestEntry o_2.2.1 o_2.2.2 m_words a0 a1 z_3) (cwV 3 hts gX0_walkFirst_X0_firstAllows rfl rfl rfl (by decide +kernel) ⟨Nat.le_of_ble_eq_true rfl, Nat.le_of_ble_eq_true rfl⟩) ⟨fun a U g mk q => ⟨q.1, q.2.1, q.2.2.1, va_K.moved (u := U) (U := U.calling g mk a) (Vm.Alike.refl U.vm) q.2.2.2.1, q.2.2.2.2⟩, va_recv hK hP (ci := 0) (q0 := 0) rfl rfl, fun U hU hW => ⟨rfl, by rw [hU], by rw [hU]; exact hP, va_K.moved hW.alike hK, hD.weaken (fun _ _ _ _ => trivial)⟩⟩ rfl rfl hl.1 rfl (lv_room (Nat.le_of_ble_eq_true rfl)) dX0_walkFirst_103 ⟨Nat.zero_le _, Nat.zero_le _⟩) hA hD hP hS (fun H locs hP hS => ?_)
              refine lv_if_eq (tgt := 113) hx hb dX0_walkFirst_106 (by decide) (fun c_106 => ?_) (fun c_106 => ?_)
              · skip
                refine lv_iconst (v := 0) hx hb dX0_walkFirst_113 (by decide) ?_
                exact W.eq (by rw [if_neg c_95, if_pos c_106] <;> rfl) (J114_95 _ _ hP hS)
              · skip
                refine lv_iconst (v := 1) hx hb dX0_walkFirst_109 (by decide) ?_
                refine lv_goto (tgt := 114) hx hb dX0_walkFirst_110 (by decide) ?_
                exact W.eq (by rw [if_neg c_95, if_neg c_106] <;> rfl) (J114_95 _ _ hP hS)
        · skip
          exact absurd c_82 c_46
      · skip
        refine lv_lload hx hb dX0_walkFirst_54 (lv_at hl 1 rfl) ?_
        refine lv_lload_n hx hb dX0_walkFirst_56 rfl (lv_at hl 6 rfl) ?_
        refine cs_l (va_runS (As := [.long z_3, .long a2]) (rest := []) ⟨hx, hb, hml, hown, hts⟩ (ctx_lowerEntry l H.size z_3 a2) (va_cwS 2 hts gX0_walkFirst_X0_lowerEntry rfl rfl rfl (by decide +kernel) ⟨Nat.le_of_ble_eq_true rfl, Nat.le_of_ble_eq_true rfl⟩) ⟨fun a U g mk q => q, fun U hU hW => ⟨rfl, congrArg Array.size hU⟩⟩ rfl rfl hl.1 rfl (lv_room (Nat.le_of_ble_eq_true rfl)) dX0_walkFirst_57 ⟨Nat.zero_le _, Nat.zero_le _⟩) hA hP hS (fun H locs hP hS => ?_)
        refine lv_topl (fun z_6 ez_6 => ?_)
        refine lv_lstore (lv' := [(6, .long z_6), (10, .int z_4), (8, .long z_3), (0, .ref h0), (1, .int a0), (2, .int a1), (3, .long a2), (5, .int a3)]) hx hb dX0_walkFirst_60 hl (by decide) rfl (fun ls hl => ?_)
        refine lv_aload_n hx hb dX0_walkFirst_62 rfl (lv_at hl 3 rfl) ?_
        refine lv_iload_n hx hb dX0_walkFirst_63 rfl (lv_at hl 5 rfl) ?_
        refine lv_aload_n hx hb dX0_walkFirst_64 rfl (lv_at hl 3 rfl) ?_
        refine lv_iload_n hx hb dX0_walkFirst_65 rfl (lv_at hl 4 rfl) ?_
        refine lv_iload_n hx hb dX0_walkFirst_66 rfl (lv_at hl 5 rfl) ?_
        refine lv_lload hx hb dX0_walkFirst_67 (lv_at hl 0 rfl) ?_
        refine lv_iconst (v := 1) hx hb dX0_walkFirst_69 (by decide) ?_
        refine cw_l (va_runV (As := [.int a0, .int a1, .long z_6, .int 1]) (rest := [.int a1, .ref h0]) ⟨hx, hb, hml, hown, hts⟩ (ctx_throughSecond l dC dI h0 q_words k_words H.size v_atp v_vsAtp v_hgatp v_rights v_latestPlace v_latestSecond v_latestEntry o_2.2.1 o_2.2.2 m_words a0 a1 z_6 1 (Or.inr rfl)) (cwV 4 hts gX0_walkFirst_X0_throughSecond rfl rfl rfl (by decide +kernel) ⟨Nat.le_of_ble_eq_true rfl, Nat.le_of_ble_eq_true rfl⟩) ⟨fun a U g mk q => ⟨q.1, q.2.1, q.2.2.1, va_K.moved (u := U) (U := U.calling g mk a) (Vm.Alike.refl U.vm) q.2.2.2.1, q.2.2.2.2⟩, va_recv hK hP (ci := 0) (q0 := 0) rfl rfl, fun U hU hW => ⟨rfl, by rw [hU], by rw [hU]; exact hP, va_K.moved hW.alike hK, hD.weaken (fun _ _ _ _ => trivial)⟩⟩ rfl rfl hl.1 rfl (lv_room (Nat.le_of_ble_eq_true rfl)) dX0_walkFirst_70 ⟨Nat.zero_le _, Nat.zero_le _⟩) hA hD hP hS (fun o_7 H locs eo_7 hP hD hS => ?_)
        have hP : va_P (dC, dI) vwCl (wx h0 q_words k_words v_atp v_vsAtp v_hgatp v_rights v_latestPlace v_latestSecond v_latestEntry o_7.2.1 o_7.2.2 m_words) H := hP
        have hD : va_D A (wx h0 q_words k_words v_atp v_vsAtp v_hgatp v_rights v_latestPlace v_latestSecond v_latestEntry o_7.2.1 o_7.2.2 m_words) := hD
        refine cr_l (va_runV (As := [.int a1, .long o_7.1]) (rest := []) ⟨hx, hb, hml, hown, hts⟩ (ctx_entryAt l dC dI h0 q_words k_words H.size v_atp v_vsAtp v_hgatp v_rights v_latestPlace v_latestSecond v_latestEntry o_7.2.1 o_7.2.2 m_words a1 o_7.1) (cwV 2 hts gX0_walkFirst_X0_entryAt rfl rfl rfl (by decide +kernel) ⟨Nat.le_of_ble_eq_true rfl, Nat.le_of_ble_eq_true rfl⟩) ⟨fun a U g mk q => ⟨q.1, q.2.1, q.2.2.1, va_K.moved (u := U) (U := U.calling g mk a) (Vm.Alike.refl U.vm) q.2.2.2.1, q.2.2.2.2⟩, va_recv hK hP (ci := 0) (q0 := 0) rfl rfl, fun U hU hW => ⟨rfl, by rw [hU], by rw [hU]; exact hP, va_K.moved hW.alike hK, hD.weaken (fun _ _ _ _ => trivial)⟩⟩ rfl rfl hl.1 rfl (lv_room (Nat.le_of_ble_eq_true rfl)) dX0_walkFirst_73 ⟨Nat.zero_le _, Nat.zero_le _⟩) hA hD hP hS (fun H locs hP hS => ?_)
        refine lv_topl (fun z_8 ez_8 => ?_)
        refine lv_lstore (lv' := [(8, .long z_8), (6, .long z_6), (10, .int z_4), (0, .ref h0), (1, .int a0), (2, .int a1), (3, .long a2), (5, .int a3)]) hx hb dX0_walkFirst_76 hl (by decide) rfl (fun ls hl => ?_)
        refine lv_lload hx hb dX0_walkFirst_78 (lv_at hl 0 rfl) ?_
        refine lv_lconst (v := 0) hx hb dX0_walkFirst_80 (by decide) ?_
        refine lq_ge (tgt := 88) hx hb dX0_walkFirst_81 dX0_walkFirst_82 (by decide) (fun c_82 => ?_) (fun c_82 => ?_)
        · skip
          refine lv_lload hx hb dX0_walkFirst_88 (lv_at hl 0 rfl) ?_
          refine lv_iload hx hb dX0_walkFirst_90 (lv_at hl 2 rfl) ?_
          refine cs_i (va_runS (As := [.long z_8, .int z_4]) (rest := []) ⟨hx, hb, hml, hown, hts⟩ (ctx_isGoodLeaf l H.size z_8 z_4) (va_cwS 2 hts gX0_walkFirst_X0_isGoodLeaf rfl rfl rfl (by decide +kernel) ⟨Nat.le_of_ble_eq_true rfl, Nat.le_of_ble_eq_true rfl⟩) ⟨fun a U g mk q => q, fun U hU hW => ⟨rfl, congrArg Array.size hU⟩⟩ rfl rfl hl.1 rfl (lv_room (Nat.le_of_ble_eq_true rfl)) dX0_walkFirst_92 ⟨Nat.zero_le _, Nat.zero_le _⟩) hA hP hS (fun H locs hP hS => ?_)
          refine lj_i (j := 114) (z0 := if ((fx_isGoodLeaf z_8 z_4)) = 0 then 0 else if ((fx_firstAllows v_rights a0 a1 z_8)) = 0 then 0 else 1) (rest := []) hP hS (fun H locs hP hS z_9 ez_9 => ?_) (fun J114_95 => ?_)
          · skip
            have oz_9 : z_9 = 0 ∨ z_9 = 1 := by rw [ez_9]; exact ite01 (Or.inl rfl) (ite01 (Or.inl rfl) (Or.inr rfl))
            refine lv_istore (lv' := [(11, .int z_9), (8, .long z_8), (6, .long z_6), (10, .int z_4), (0, .ref h0), (1, .int a0), (2, .int a1), (3, .long a2), (5, .int a3)]) hx hb dX0_walkFirst_114 hl (by decide) rfl (fun ls hl => ?_)
            refine lv_iload hx hb dX0_walkFirst_116 (lv_at hl 0 rfl) ?_
            refine lv_if_eq (tgt := 132) hx hb dX0_walkFirst_118 (by decide) (fun c_118 => ?_) (fun c_118 => ?_)
            · skip
              refine lv_iload_n hx hb dX0_walkFirst_132 rfl (lv_at hl 6 rfl) ?_
              refine cs_l (va_runS (As := [.int a1]) (rest := []) ⟨hx, hb, hml, hown, hts⟩ (ctx_firstFault l H.size a1) (va_cwS 1 hts gX0_walkFirst_X0_firstFault rfl rfl rfl (by decide +kernel) ⟨Nat.le_of_ble_eq_true rfl, Nat.le_of_ble_eq_true rfl⟩) ⟨fun a U g mk q => q, fun U hU hW => ⟨rfl, congrArg Array.size hU⟩⟩ rfl rfl hl.1 rfl (lv_room (Nat.le_of_ble_eq_true rfl)) dX0_walkFirst_133 ⟨Nat.zero_le _, Nat.zero_le _⟩) hA hP hS (fun H locs hP hS => ?_)
              exact W.lret (v := (fx_firstFault a1)) hx hb hr (fun t ht hW => ⟨⟨_, ((fx_firstFault a1), o_7.2.1, o_7.2.2), rfl, ⟨rfl, by subst ez_9; subst ez_8; subst eo_7; subst ez_6; subst ez_4; subst ez_3; subst eo_2; subst ez_1; first | (rw [fx_walkFirst, if_neg c_46, if_pos c_51, if_neg c_82, if_pos c_118]; done) | (simp only [fx_walkFirst, if_neg c_46, if_pos c_51, if_neg c_82, if_pos c_118]; done) | (rw [fx_walkFirst, if_neg c_46, if_pos c_51, if_neg c_82, if_pos c_118] <;> rfl)⟩, by rw [ht]; exact hP, va_K.moved hW.alike hK, hD⟩, hS.F ht⟩) hS.2.2 dX0_walkFirst_136
            · skip
              refine lv_lload hx hb dX0_walkFirst_121 (lv_at hl 1 rfl) ?_
              refine lv_iload hx hb dX0_walkFirst_123 (lv_at hl 3 rfl) ?_
              refine lv_lload_n hx hb dX0_walkFirst_125 rfl (lv_at hl 7 rfl) ?_
              refine cs_l (va_runS (As := [.long z_8, .int z_4, .long a2]) (rest := []) ⟨hx, hb, hml, hown, hts⟩ (ctx_result l H.size z_8 z_4 a2) (va_cwS 3 hts gX0_walkFirst_X0_result rfl rfl rfl (by decide +kernel) ⟨Nat.le_of_ble_eq_true rfl, Nat.le_of_ble_eq_true rfl⟩) ⟨fun a U g mk q => q, fun U hU hW => ⟨rfl, congrArg Array.size hU⟩⟩ rfl rfl hl.1 rfl (lv_room (Nat.le_of_ble_eq_true rfl)) dX0_walkFirst_126 ⟨Nat.zero_le _, Nat.zero_le _⟩) hA hP hS (fun H locs hP hS => ?_)
              refine lv_goto (tgt := 136) hx hb dX0_walkFirst_129 (by decide) ?_
              exact W.lret (v := (fx_result z_8 z_4 a2)) hx hb hr (fun t ht hW => ⟨⟨_, ((fx_result z_8 z_4 a2), o_7.2.1, o_7.2.2), rfl, ⟨rfl, by subst ez_9; subst ez_8; subst eo_7; subst ez_6; subst ez_4; subst ez_3; subst eo_2; subst ez_1; first | (rw [fx_walkFirst, if_neg c_46, if_pos c_51, if_neg c_82, if_neg c_118]; done) | (simp only [fx_walkFirst, if_neg c_46, if_pos c_51, if_neg c_82, if_neg c_118]; done) | (rw [fx_walkFirst, if_neg c_46, if_pos c_51, if_neg c_82, if_neg c_118] <;> rfl)⟩, by rw [ht]; exact hP, va_K.moved hW.alike hK, hD⟩, hS.F ht⟩) hS.2.2 dX0_walkFirst_136
          · skip
            refine lv_if_eq (tgt := 113) hx hb dX0_walkFirst_95 (by decide) (fun c_95 => ?_) (fun c_95 => ?_)
            · skip
              refine lv_iconst (v := 0) hx hb dX0_walkFirst_113 (by decide) ?_
              exact W.eq (by rw [if_pos c_95] <;> rfl) (J114_95 _ _ hP hS)
            · skip
              refine lv_aload_n hx hb dX0_walkFirst_98 rfl (lv_at hl 3 rfl) ?_
              refine lv_iload_n hx hb dX0_walkFirst_99 rfl (lv_at hl 4 rfl) ?_
              refine lv_iload_n hx hb dX0_walkFirst_100 rfl (lv_at hl 5 rfl) ?_
              refine lv_lload hx hb dX0_walkFirst_101 (lv_at hl 0 rfl) ?_
              refine cr_i (va_runV (As := [.int a0, .int a1, .long z_8]) (rest := []) ⟨hx, hb, hml, hown, hts⟩ (ctx_firstAllows l dC dI h0 q_words k_words H.size v_atp v_vsAtp v_hgatp v_rights v_latestPlace v_latestSecond v_latestEntry o_7.2.1 o_7.2.2 m_words a0 a1 z_8) (cwV 3 hts gX0_walkFirst_X0_firstAllows rfl rfl rfl (by decide +kernel) ⟨Nat.le_of_ble_eq_true rfl, Nat.le_of_ble_eq_true rfl⟩) ⟨fun a U g mk q => ⟨q.1, q.2.1, q.2.2.1, va_K.moved (u := U) (U := U.calling g mk a) (Vm.Alike.refl U.vm) q.2.2.2.1, q.2.2.2.2⟩, va_recv hK hP (ci := 0) (q0 := 0) rfl rfl, fun U hU hW => ⟨rfl, by rw [hU], by rw [hU]; exact hP, va_K.moved hW.alike hK, hD.weaken (fun _ _ _ _ => trivial)⟩⟩ rfl rfl hl.1 rfl (lv_room (Nat.le_of_ble_eq_true rfl)) dX0_walkFirst_103 ⟨Nat.zero_le _, Nat.zero_le _⟩) hA hD hP hS (fun H locs hP hS => ?_)
              refine lv_if_eq (tgt := 113) hx hb dX0_walkFirst_106 (by decide) (fun c_106 => ?_) (fun c_106 => ?_)
              · skip
                refine lv_iconst (v := 0) hx hb dX0_walkFirst_113 (by decide) ?_
                exact W.eq (by rw [if_neg c_95, if_pos c_106] <;> rfl) (J114_95 _ _ hP hS)
              · skip
                refine lv_iconst (v := 1) hx hb dX0_walkFirst_109 (by decide) ?_
                refine lv_goto (tgt := 114) hx hb dX0_walkFirst_110 (by decide) ?_
                exact W.eq (by rw [if_neg c_95, if_neg c_106] <;> rfl) (J114_95 _ _ hP hS)
        · skip
          refine lv_lload hx hb dX0_walkFirst_85 (lv_at hl 0 rfl) ?_
          exact W.lret (v := z_8) hx hb hr (fun t ht hW => ⟨⟨_, (z_8, o_7.2.1, o_7.2.2), rfl, ⟨rfl, by subst ez_8; subst eo_7; subst ez_6; subst ez_4; subst ez_3; subst eo_2; subst ez_1; first | (rw [fx_walkFirst, if_neg c_46, if_pos c_51, if_pos c_82]; done) | (simp only [fx_walkFirst, if_neg c_46, if_pos c_51, if_pos c_82]; done) | (rw [fx_walkFirst, if_neg c_46, if_pos c_51, if_pos c_82] <;> rfl)⟩, by rw [ht]; exact hP, va_K.moved hW.alike hK, hD⟩, hS.F ht⟩) hS.2.2 dX0_walkFirst_87
  · skip
    refine lv_if_ne (tgt := 39) hx hb dX0_walkFirst_32 (by decide) (fun c_32 => ?_) (fun c_32 => ?_)
    · skip
      refine lv_iconst (v := 0) hx hb dX0_walkFirst_39 (by decide) ?_
      exact W.eq (by rw [if_neg c_32] <;> rfl) (J40_32 _ _ hP hS)
    · skip
      refine lv_iconst (v := 1) hx hb dX0_walkFirst_35 (by decide) ?_
      refine lv_goto (tgt := 40) hx hb dX0_walkFirst_36 (by decide) ?_
      exact W.eq (by rw [if_pos c_32] <;> rfl) (J40_32 _ _ hP hS)
def fx_lead (v_atp : Int32) (v_vsAtp : Int32) (v_hgatp : Int32) (v_rights : Int32) (v_refusedAddress : Int64) (v_refusedEntry : Int32) (m_words : Nat → Int32) (a0 : Int32) (a1 : Int32) (a2 : Int64) : Int64 × Int64 × Int32 := if 0 ≤ ((if ((fx_isVirtual a0)) = 0 then v_atp else v_vsAtp : Int32)) then if ((fx_throughSecond v_hgatp v_rights v_refusedAddress v_refusedEntry m_words a0 a1 a2 0).1) < 262144 then ((fx_throughSecond v_hgatp v_rights v_refusedAddress v_refusedEntry m_words a0 a1 a2 0).1, (fx_throughSecond v_hgatp v_rights v_refusedAddress v_refusedEntry m_words a0 a1 a2 0).2.1, (fx_throughSecond v_hgatp v_rights v_refusedAddress v_refusedEntry m_words a0 a1 a2 0).2.2) else ((fx_noMemory a1), (fx_throughSecond v_hgatp v_rights v_refusedAddress v_refusedEntry m_words a0 a1 a2 0).2.1, (fx_throughSecond v_hgatp v_rights v_refusedAddress v_refusedEntry m_words a0 a1 a2 0).2.2) else if ((fx_throughSecond v_hgatp v_rights ((fx_walkFirst v_hgatp v_rights v_refusedAddress v_refusedEntry m_words a0 a1 a2 ((if ((fx_isVirtual a0)) = 0 then v_atp else v_vsAtp : Int32))).2.1) ((fx_walkFirst v_hgatp v_rights v_refusedAddress v_refusedEntry m_words a0 a1 a2 ((if ((fx_isVirtual a0)) = 0 then v_atp else v_vsAtp : Int32))).2.2) m_words a0 a1 ((fx_walkFirst v_hgatp v_rights v_refusedAddress v_refusedEntry m_words a0 a1 a2 ((if ((fx_isVirtual a0)) = 0 then v_atp else v_vsAtp : Int32))).1) 0).1) < 262144 then ((fx_throughSecond v_hgatp v_rights ((fx_walkFirst v_hgatp v_rights v_refusedAddress v_refusedEntry m_words a0 a1 a2 ((if ((fx_isVirtual a0)) = 0 then v_atp else v_vsAtp : Int32))).2.1) ((fx_walkFirst v_hgatp v_rights v_refusedAddress v_refusedEntry m_words a0 a1 a2 ((if ((fx_isVirtual a0)) = 0 then v_atp else v_vsAtp : Int32))).2.2) m_words a0 a1 ((fx_walkFirst v_hgatp v_rights v_refusedAddress v_refusedEntry m_words a0 a1 a2 ((if ((fx_isVirtual a0)) = 0 then v_atp else v_vsAtp : Int32))).1) 0).1, (fx_throughSecond v_hgatp v_rights ((fx_walkFirst v_hgatp v_rights v_refusedAddress v_refusedEntry m_words a0 a1 a2 ((if ((fx_isVirtual a0)) = 0 then v_atp else v_vsAtp : Int32))).2.1) ((fx_walkFirst v_hgatp v_rights v_refusedAddress v_refusedEntry m_words a0 a1 a2 ((if ((fx_isVirtual a0)) = 0 then v_atp else v_vsAtp : Int32))).2.2) m_words a0 a1 ((fx_walkFirst v_hgatp v_rights v_refusedAddress v_refusedEntry m_words a0 a1 a2 ((if ((fx_isVirtual a0)) = 0 then v_atp else v_vsAtp : Int32))).1) 0).2.1, (fx_throughSecond v_hgatp v_rights ((fx_walkFirst v_hgatp v_rights v_refusedAddress v_refusedEntry m_words a0 a1 a2 ((if ((fx_isVirtual a0)) = 0 then v_atp else v_vsAtp : Int32))).2.1) ((fx_walkFirst v_hgatp v_rights v_refusedAddress v_refusedEntry m_words a0 a1 a2 ((if ((fx_isVirtual a0)) = 0 then v_atp else v_vsAtp : Int32))).2.2) m_words a0 a1 ((fx_walkFirst v_hgatp v_rights v_refusedAddress v_refusedEntry m_words a0 a1 a2 ((if ((fx_isVirtual a0)) = 0 then v_atp else v_vsAtp : Int32))).1) 0).2.2) else ((fx_noMemory a1), (fx_throughSecond v_hgatp v_rights ((fx_walkFirst v_hgatp v_rights v_refusedAddress v_refusedEntry m_words a0 a1 a2 ((if ((fx_isVirtual a0)) = 0 then v_atp else v_vsAtp : Int32))).2.1) ((fx_walkFirst v_hgatp v_rights v_refusedAddress v_refusedEntry m_words a0 a1 a2 ((if ((fx_isVirtual a0)) = 0 then v_atp else v_vsAtp : Int32))).2.2) m_words a0 a1 ((fx_walkFirst v_hgatp v_rights v_refusedAddress v_refusedEntry m_words a0 a1 a2 ((if ((fx_isVirtual a0)) = 0 then v_atp else v_vsAtp : Int32))).1) 0).2.1, (fx_throughSecond v_hgatp v_rights ((fx_walkFirst v_hgatp v_rights v_refusedAddress v_refusedEntry m_words a0 a1 a2 ((if ((fx_isVirtual a0)) = 0 then v_atp else v_vsAtp : Int32))).2.1) ((fx_walkFirst v_hgatp v_rights v_refusedAddress v_refusedEntry m_words a0 a1 a2 ((if ((fx_isVirtual a0)) = 0 then v_atp else v_vsAtp : Int32))).2.2) m_words a0 a1 ((fx_walkFirst v_hgatp v_rights v_refusedAddress v_refusedEntry m_words a0 a1 a2 ((if ((fx_isVirtual a0)) = 0 then v_atp else v_vsAtp : Int32))).1) 0).2.2)
set_option maxHeartbeats 4000000 in
set_option maxRecDepth 100000 in
theorem ctx_lead (l : Launch) (dC : Nat → ClassId) (dI : Nat → Nat → Nat) (h0 : Nat) (q_words : Nat) (k_words : ClassId) (sz : Nat) (v_atp : Int32) (v_vsAtp : Int32) (v_hgatp : Int32) (v_rights : Int32) (v_latestPlace : Int32) (v_latestSecond : Int32) (v_latestEntry : Int32) (v_refusedAddress : Int64) (v_refusedEntry : Int32) (m_words : Nat → Int32) (a0 : Int32) (a1 : Int32) (a2 : Int64) : MWl l yX0_lead wsX0_lead ({ frames := 5, cells := 0, slots := 0, locals := 132 }) (dC, dI) vwCl [(k_words, .int)] [.ref h0, .int a0, .int a1, .long a2] sz (wx h0 q_words k_words v_atp v_vsAtp v_hgatp v_rights v_latestPlace v_latestSecond v_latestEntry v_refusedAddress v_refusedEntry m_words) (fun u : Int64 × Int64 × Int32 => (wx h0 q_words k_words v_atp v_vsAtp v_hgatp v_rights v_latestPlace v_latestSecond v_latestEntry u.2.1 u.2.2 m_words)) (fun u : Int64 × Int64 × Int32 => u.1) (fx_lead v_atp v_vsAtp v_hgatp v_rights v_refusedAddress v_refusedEntry m_words a0 a1 a2) := by
  refine Met.ofW (cc := cX0_lead) (maxL := 10) (ret := (some .long)) (by decide) rfl ?_
  intro p e s m args below meth c s₁ B hml hv
  obtain ⟨rfl, hsz, hP, hK, hD0⟩ := hv
  have hx := B.exec
  have hb := B.bytes
  have hr := B.returns
  have hts := atoms_spec (ws := wsX0_lead) B.pre
  have hown : s.vm.findClass RX0 = some m.cls := findClass_of_methodNamed B.named
  have hlocks := B.notSynchronized
  subst hsz
  have hwX : ∀ w ∈ u_ws RX0 TX0 10, w ∈ wsX0_lead := by decide +kernel
  have hD := hD0.self (sz := s.heap.size)
  generalize hAe : va_A (wx h0 q_words k_words v_atp v_vsAtp v_hgatp v_rights v_latestPlace v_latestSecond v_latestEntry v_refusedAddress v_refusedEntry m_words) s.heap.size = A at hD ⊢
  have hA : ∀ q : Nat, s.heap.size ≤ q → A q := fun q h => by rw [← hAe]; exact Or.inr h
  have hS : va_S A s.heap s.heap [] := va_S.rf
  have hP : va_P (dC, dI) vwCl (wx h0 q_words k_words v_atp v_vsAtp v_hgatp v_rights v_latestPlace v_latestSecond v_latestEntry v_refusedAddress v_refusedEntry m_words) s.heap := hP
  have hl := lv_entry ([.ref h0, .int a0, .int a1, .long a2]) (n := 10) (Nat.le_of_ble_eq_true rfl)
  rw [lg_entry_eq]
  generalize (lg_sl ([.ref h0, .int a0, .int a1, .long a2]) ++ List.replicate (10 - (lg_sl ([.ref h0, .int a0, .int a1, .long a2])).length) Slot.unset).toArray = ls at hl ⊢
  have hl : lv_has ls 10 [(0, .ref h0), (1, .int a0), (2, .int a1), (3, .long a2)] := hl
  refine lv_iload_n hx hb dX0_lead_0 rfl (lv_at hl 1 rfl) ?_
  refine cs_i (va_runS (As := [.int a0]) (rest := []) ⟨hx, hb, hml, hown, hts⟩ (ctx_isVirtual l s.heap.size a0) (va_cwS 1 hts gX0_lead_X0_isVirtual rfl rfl rfl (by decide +kernel) ⟨Nat.le_of_ble_eq_true rfl, Nat.le_of_ble_eq_true rfl⟩) ⟨fun a U g mk q => q, fun U hU hW => ⟨rfl, congrArg Array.size hU⟩⟩ rfl rfl hl.1 rfl (lv_room (Nat.le_of_ble_eq_true rfl)) dX0_lead_1 ⟨Nat.zero_le _, Nat.zero_le _⟩) hA hP hS (fun H locs hP hS => ?_)
  refine lj_i (j := 18) (z0 := if ((fx_isVirtual a0)) = 0 then v_atp else v_vsAtp) (rest := []) hP hS (fun H locs hP hS z_1 ez_1 => ?_) (fun J18_4 => ?_)
  · skip
    refine lv_istore (lv' := [(5, .int z_1), (0, .ref h0), (1, .int a0), (2, .int a1), (3, .long a2)]) hx hb dX0_lead_18 hl (by decide) rfl (fun ls hl => ?_)
    refine lv_iload hx hb dX0_lead_20 (lv_at hl 0 rfl) ?_
    refine lv_if_ge (tgt := 37) hx hb dX0_lead_22 (by decide) (fun c_22 => ?_) (fun c_22 => ?_)
    · skip
      refine lv_lload_n hx hb dX0_lead_37 rfl (lv_at hl 4 rfl) ?_
      refine lv_lstore (lv' := [(6, .long a2), (5, .int z_1), (0, .ref h0), (1, .int a0), (2, .int a1), (3, .long a2)]) hx hb dX0_lead_38 hl (by decide) rfl (fun ls hl => ?_)
      refine lv_aload_n hx hb dX0_lead_40 rfl (lv_at hl 2 rfl) ?_
      refine lv_iload_n hx hb dX0_lead_41 rfl (lv_at hl 3 rfl) ?_
      refine lv_iload_n hx hb dX0_lead_42 rfl (lv_at hl 4 rfl) ?_
      refine lv_lload hx hb dX0_lead_43 (lv_at hl 0 rfl) ?_
      refine lv_iconst (v := 0) hx hb dX0_lead_45 (by decide) ?_
      refine cw_l (va_runV (As := [.int a0, .int a1, .long a2, .int 0]) (rest := []) ⟨hx, hb, hml, hown, hts⟩ (ctx_throughSecond l dC dI h0 q_words k_words H.size v_atp v_vsAtp v_hgatp v_rights v_latestPlace v_latestSecond v_latestEntry v_refusedAddress v_refusedEntry m_words a0 a1 a2 0 (Or.inl rfl)) (cwV 4 hts gX0_lead_X0_throughSecond rfl rfl rfl (by decide +kernel) ⟨Nat.le_of_ble_eq_true rfl, Nat.le_of_ble_eq_true rfl⟩) ⟨fun a U g mk q => ⟨q.1, q.2.1, q.2.2.1, va_K.moved (u := U) (U := U.calling g mk a) (Vm.Alike.refl U.vm) q.2.2.2.1, q.2.2.2.2⟩, va_recv hK hP (ci := 0) (q0 := 0) rfl rfl, fun U hU hW => ⟨rfl, by rw [hU], by rw [hU]; exact hP, va_K.moved hW.alike hK, hD.weaken (fun _ _ _ _ => trivial)⟩⟩ rfl rfl hl.1 rfl (lv_room (Nat.le_of_ble_eq_true rfl)) dX0_lead_46 ⟨Nat.zero_le _, Nat.zero_le _⟩) hA hD hP hS (fun o_2 H locs eo_2 hP hD hS => ?_)
      have hP : va_P (dC, dI) vwCl (wx h0 q_words k_words v_atp v_vsAtp v_hgatp v_rights v_latestPlace v_latestSecond v_latestEntry o_2.2.1 o_2.2.2 m_words) H := hP
      have hD : va_D A (wx h0 q_words k_words v_atp v_vsAtp v_hgatp v_rights v_latestPlace v_latestSecond v_latestEntry o_2.2.1 o_2.2.2 m_words) := hD
      refine lv_topl (fun z_3 ez_3 => ?_)
      refine lv_lstore (lv' := [(8, .long z_3), (6, .long a2), (5, .int z_1), (0, .ref h0), (1, .int a0), (2, .int a1), (3, .long a2)]) hx hb dX0_lead_49 hl (by decide) rfl (fun ls hl => ?_)
      refine lv_lload hx hb dX0_lead_51 (lv_at hl 0 rfl) ?_
      refine lv_ldc2 hx hb hown (hts (.constantLong RX0 83 262144) (by decide +kernel)) dX0_lead_53 ?_
      refine lq_lt (tgt := 67) hx hb dX0_lead_56 dX0_lead_57 (by decide) (fun c_57 => ?_) (fun c_57 => ?_)
      · skip
        refine lv_lload hx hb dX0_lead_67 (lv_at hl 0 rfl) ?_
        exact W.lret (v := z_3) hx hb hr (fun t ht hW => ⟨⟨_, (z_3, o_2.2.1, o_2.2.2), rfl, ⟨rfl, by subst ez_3; subst eo_2; subst ez_1; first | (rw [fx_lead, if_pos c_22, if_pos c_57]; done) | (simp only [fx_lead, if_pos c_22, if_pos c_57]; done) | (rw [fx_lead, if_pos c_22, if_pos c_57] <;> rfl)⟩, by rw [ht]; exact hP, va_K.moved hW.alike hK, hD⟩, hS.F ht⟩) hS.2.2 dX0_lead_69
      · skip
        refine lv_iload_n hx hb dX0_lead_60 rfl (lv_at hl 5 rfl) ?_
        refine cs_l (va_runS (As := [.int a1]) (rest := []) ⟨hx, hb, hml, hown, hts⟩ (ctx_noMemory l H.size a1) (va_cwS 1 hts gX0_lead_X0_noMemory rfl rfl rfl (by decide +kernel) ⟨Nat.le_of_ble_eq_true rfl, Nat.le_of_ble_eq_true rfl⟩) ⟨fun a U g mk q => q, fun U hU hW => ⟨rfl, congrArg Array.size hU⟩⟩ rfl rfl hl.1 rfl (lv_room (Nat.le_of_ble_eq_true rfl)) dX0_lead_61 ⟨Nat.zero_le _, Nat.zero_le _⟩) hA hP hS (fun H locs hP hS => ?_)
        refine lv_goto (tgt := 69) hx hb dX0_lead_64 (by decide) ?_
        exact W.lret (v := (fx_noMemory a1)) hx hb hr (fun t ht hW => ⟨⟨_, ((fx_noMemory a1), o_2.2.1, o_2.2.2), rfl, ⟨rfl, by subst ez_3; subst eo_2; subst ez_1; first | (rw [fx_lead, if_pos c_22, if_neg c_57]; done) | (simp only [fx_lead, if_pos c_22, if_neg c_57]; done) | (rw [fx_lead, if_pos c_22, if_neg c_57] <;> rfl)⟩, by rw [ht]; exact hP, va_K.moved hW.alike hK, hD⟩, hS.F ht⟩) hS.2.2 dX0_lead_69
    · skip
      refine lv_aload_n hx hb dX0_lead_25 rfl (lv_at hl 1 rfl) ?_
      refine lv_iload_n hx hb dX0_lead_26 rfl (lv_at hl 2 rfl) ?_
      refine lv_iload_n hx hb dX0_lead_27 rfl (lv_at hl 3 rfl) ?_
      refine lv_lload_n hx hb dX0_lead_28 rfl (lv_at hl 4 rfl) ?_
      refine lv_iload hx hb dX0_lead_29 (lv_at hl 0 rfl) ?_
      refine cw_l (va_runV (As := [.int a0, .int a1, .long a2, .int z_1]) (rest := []) ⟨hx, hb, hml, hown, hts⟩ (ctx_walkFirst l dC dI h0 q_words k_words H.size v_atp v_vsAtp v_hgatp v_rights v_latestPlace v_latestSecond v_latestEntry v_refusedAddress v_refusedEntry m_words a0 a1 a2 z_1) (cwV 4 hts gX0_lead_X0_walkFirst rfl rfl rfl (by decide +kernel) ⟨Nat.le_of_ble_eq_true rfl, Nat.le_of_ble_eq_true rfl⟩) ⟨fun a U g mk q => ⟨q.1, q.2.1, q.2.2.1, va_K.moved (u := U) (U := U.calling g mk a) (Vm.Alike.refl U.vm) q.2.2.2.1, q.2.2.2.2⟩, va_recv hK hP (ci := 0) (q0 := 0) rfl rfl, fun U hU hW => ⟨rfl, by rw [hU], by rw [hU]; exact hP, va_K.moved hW.alike hK, hD.weaken (fun _ _ _ _ => trivial)⟩⟩ rfl rfl hl.1 rfl (lv_room (Nat.le_of_ble_eq_true rfl)) dX0_lead_31 ⟨Nat.zero_le _, Nat.zero_le _⟩) hA hD hP hS (fun o_4 H locs eo_4 hP hD hS => ?_)
      have hP : va_P (dC, dI) vwCl (wx h0 q_words k_words v_atp v_vsAtp v_hgatp v_rights v_latestPlace v_latestSecond v_latestEntry o_4.2.1 o_4.2.2 m_words) H := hP
      have hD : va_D A (wx h0 q_words k_words v_atp v_vsAtp v_hgatp v_rights v_latestPlace v_latestSecond v_latestEntry o_4.2.1 o_4.2.2 m_words) := hD
      refine lv_goto (tgt := 38) hx hb dX0_lead_34 (by decide) ?_
      refine lv_topl (fun z_5 ez_5 => ?_)
      refine lv_lstore (lv' := [(6, .long z_5), (5, .int z_1), (0, .ref h0), (1, .int a0), (2, .int a1), (3, .long a2)]) hx hb dX0_lead_38 hl (by decide) rfl (fun ls hl => ?_)
      refine lv_aload_n hx hb dX0_lead_40 rfl (lv_at hl 2 rfl) ?_
      refine lv_iload_n hx hb dX0_lead_41 rfl (lv_at hl 3 rfl) ?_
      refine lv_iload_n hx hb dX0_lead_42 rfl (lv_at hl 4 rfl) ?_
      refine lv_lload hx hb dX0_lead_43 (lv_at hl 0 rfl) ?_
      refine lv_iconst (v := 0) hx hb dX0_lead_45 (by decide) ?_
      refine cw_l (va_runV (As := [.int a0, .int a1, .long z_5, .int 0]) (rest := []) ⟨hx, hb, hml, hown, hts⟩ (ctx_throughSecond l dC dI h0 q_words k_words H.size v_atp v_vsAtp v_hgatp v_rights v_latestPlace v_latestSecond v_latestEntry o_4.2.1 o_4.2.2 m_words a0 a1 z_5 0 (Or.inl rfl)) (cwV 4 hts gX0_lead_X0_throughSecond rfl rfl rfl (by decide +kernel) ⟨Nat.le_of_ble_eq_true rfl, Nat.le_of_ble_eq_true rfl⟩) ⟨fun a U g mk q => ⟨q.1, q.2.1, q.2.2.1, va_K.moved (u := U) (U := U.calling g mk a) (Vm.Alike.refl U.vm) q.2.2.2.1, q.2.2.2.2⟩, va_recv hK hP (ci := 0) (q0 := 0) rfl rfl, fun U hU hW => ⟨rfl, by rw [hU], by rw [hU]; exact hP, va_K.moved hW.alike hK, hD.weaken (fun _ _ _ _ => trivial)⟩⟩ rfl rfl hl.1 rfl (lv_room (Nat.le_of_ble_eq_true rfl)) dX0_lead_46 ⟨Nat.zero_le _, Nat.zero_le _⟩) hA hD hP hS (fun o_6 H locs eo_6 hP hD hS => ?_)
      have hP : va_P (dC, dI) vwCl (wx h0 q_words k_words v_atp v_vsAtp v_hgatp v_rights v_latestPlace v_latestSecond v_latestEntry o_6.2.1 o_6.2.2 m_words) H := hP
      have hD : va_D A (wx h0 q_words k_words v_atp v_vsAtp v_hgatp v_rights v_latestPlace v_latestSecond v_latestEntry o_6.2.1 o_6.2.2 m_words) := hD
      refine lv_topl (fun z_7 ez_7 => ?_)
      refine lv_lstore (lv' := [(8, .long z_7), (6, .long z_5), (5, .int z_1), (0, .ref h0), (1, .int a0), (2, .int a1), (3, .long a2)]) hx hb dX0_lead_49 hl (by decide) rfl (fun ls hl => ?_)
      refine lv_lload hx hb dX0_lead_51 (lv_at hl 0 rfl) ?_
      refine lv_ldc2 hx hb hown (hts (.constantLong RX0 83 262144) (by decide +kernel)) dX0_lead_53 ?_
      refine lq_lt (tgt := 67) hx hb dX0_lead_56 dX0_lead_57 (by decide) (fun c_57 => ?_) (fun c_57 => ?_)
      · skip
        refine lv_lload hx hb dX0_lead_67 (lv_at hl 0 rfl) ?_
        exact W.lret (v := z_7) hx hb hr (fun t ht hW => ⟨⟨_, (z_7, o_6.2.1, o_6.2.2), rfl, ⟨rfl, by subst ez_7; subst eo_6; subst ez_5; subst eo_4; subst ez_1; first | (rw [fx_lead, if_neg c_22, if_pos c_57]; done) | (simp only [fx_lead, if_neg c_22, if_pos c_57]; done) | (rw [fx_lead, if_neg c_22, if_pos c_57] <;> rfl)⟩, by rw [ht]; exact hP, va_K.moved hW.alike hK, hD⟩, hS.F ht⟩) hS.2.2 dX0_lead_69
      · skip
        refine lv_iload_n hx hb dX0_lead_60 rfl (lv_at hl 5 rfl) ?_
        refine cs_l (va_runS (As := [.int a1]) (rest := []) ⟨hx, hb, hml, hown, hts⟩ (ctx_noMemory l H.size a1) (va_cwS 1 hts gX0_lead_X0_noMemory rfl rfl rfl (by decide +kernel) ⟨Nat.le_of_ble_eq_true rfl, Nat.le_of_ble_eq_true rfl⟩) ⟨fun a U g mk q => q, fun U hU hW => ⟨rfl, congrArg Array.size hU⟩⟩ rfl rfl hl.1 rfl (lv_room (Nat.le_of_ble_eq_true rfl)) dX0_lead_61 ⟨Nat.zero_le _, Nat.zero_le _⟩) hA hP hS (fun H locs hP hS => ?_)
        refine lv_goto (tgt := 69) hx hb dX0_lead_64 (by decide) ?_
        exact W.lret (v := (fx_noMemory a1)) hx hb hr (fun t ht hW => ⟨⟨_, ((fx_noMemory a1), o_6.2.1, o_6.2.2), rfl, ⟨rfl, by subst ez_7; subst eo_6; subst ez_5; subst eo_4; subst ez_1; first | (rw [fx_lead, if_neg c_22, if_neg c_57]; done) | (simp only [fx_lead, if_neg c_22, if_neg c_57]; done) | (rw [fx_lead, if_neg c_22, if_neg c_57] <;> rfl)⟩, by rw [ht]; exact hP, va_K.moved hW.alike hK, hD⟩, hS.F ht⟩) hS.2.2 dX0_lead_69
  · skip
    refine lv_if_eq (tgt := 14) hx hb dX0_lead_4 (by decide) (fun c_4 => ?_) (fun c_4 => ?_)
    · skip
      refine lv_aload_n hx hb dX0_lead_14 rfl (lv_at hl 0 rfl) ?_
      refine va_get (D := (dC, dI)) (ci := 0) (v := .int v_atp) (C := RX0) (T := TX0) (N := 10) hx hb hts hwX hown hK hP 0 rfl rfl 1 (by decide) (hts (.fieldLink RX0 24 "StageWalker" "atp" "I") (by decide +kernel)) (fun _ h9 => h9) rfl dX0_lead_15 ?_
      exact W.eq (by rw [if_pos c_4] <;> rfl) (J18_4 _ _ hP hS)
    · skip
      refine lv_aload_n hx hb dX0_lead_7 rfl (lv_at hl 0 rfl) ?_
      refine va_get (D := (dC, dI)) (ci := 0) (v := .int v_vsAtp) (C := RX0) (T := TX0) (N := 10) hx hb hts hwX hown hK hP 0 rfl rfl 2 (by decide) (hts (.fieldLink RX0 27 "StageWalker" "vsAtp" "I") (by decide +kernel)) (fun _ h9 => h9) rfl dX0_lead_8 ?_
      refine lv_goto (tgt := 18) hx hb dX0_lead_11 (by decide) ?_
      exact W.eq (by rw [if_neg c_4] <;> rfl) (J18_4 _ _ hP hS)
