/-! StageWalker.walkSecond, throughSecond -/
def fx_walkSecond (v_hgatp : Int32) (v_rights : Int32) (v_refusedAddress : Int64) (v_refusedEntry : Int32) (m_words : Nat → Int32) (a0 : Int32) (a1 : Int64) (a2 : Int32) : Int64 × Int64 × Int32 := if ((fx_entryAt m_words a0 ((fx_upperEntry (v_hgatp &&& 4194300) a1)))) < 0 then ((fx_entryAt m_words a0 ((fx_upperEntry (v_hgatp &&& 4194300) a1))), v_refusedAddress, v_refusedEntry) else if ((if ((fx_isTable ((fx_entryAt m_words a0 ((fx_upperEntry (v_hgatp &&& 4194300) a1)))))) = 0 then 1 else 0 : Int32)) = 0 then if ((fx_entryAt m_words a0 ((fx_lowerEntry ((fx_entryAt m_words a0 ((fx_upperEntry (v_hgatp &&& 4194300) a1)))) a1)))) < 0 then ((fx_entryAt m_words a0 ((fx_lowerEntry ((fx_entryAt m_words a0 ((fx_upperEntry (v_hgatp &&& 4194300) a1)))) a1))), v_refusedAddress, v_refusedEntry) else if ((fx_isGoodLeaf ((fx_entryAt m_words a0 ((fx_lowerEntry ((fx_entryAt m_words a0 ((fx_upperEntry (v_hgatp &&& 4194300) a1)))) a1)))) ((if ((fx_isTable ((fx_entryAt m_words a0 ((fx_upperEntry (v_hgatp &&& 4194300) a1)))))) = 0 then 1 else 0 : Int32)))) = 0 then ((fx_secondFault a0), a1, a2) else if ((fx_secondAllows v_rights a0 ((fx_entryAt m_words a0 ((fx_lowerEntry ((fx_entryAt m_words a0 ((fx_upperEntry (v_hgatp &&& 4194300) a1)))) a1)))) a2)) = 0 then ((fx_secondFault a0), a1, a2) else ((fx_result ((fx_entryAt m_words a0 ((fx_lowerEntry ((fx_entryAt m_words a0 ((fx_upperEntry (v_hgatp &&& 4194300) a1)))) a1)))) ((if ((fx_isTable ((fx_entryAt m_words a0 ((fx_upperEntry (v_hgatp &&& 4194300) a1)))))) = 0 then 1 else 0 : Int32)) a1), v_refusedAddress, v_refusedEntry) else if ((fx_isGoodLeaf ((fx_entryAt m_words a0 ((fx_upperEntry (v_hgatp &&& 4194300) a1)))) ((if ((fx_isTable ((fx_entryAt m_words a0 ((fx_upperEntry (v_hgatp &&& 4194300) a1)))))) = 0 then 1 else 0 : Int32)))) = 0 then ((fx_secondFault a0), a1, a2) else if ((fx_secondAllows v_rights a0 ((fx_entryAt m_words a0 ((fx_upperEntry (v_hgatp &&& 4194300) a1)))) a2)) = 0 then ((fx_secondFault a0), a1, a2) else ((fx_result ((fx_entryAt m_words a0 ((fx_upperEntry (v_hgatp &&& 4194300) a1)))) ((if ((fx_isTable ((fx_entryAt m_words a0 ((fx_upperEntry (v_hgatp &&& 4194300) a1)))))) = 0 then 1 else 0 : Int32)) a1), v_refusedAddress, v_refusedEntry)
set_option maxHeartbeats 4000000 in
set_option maxRecDepth 100000 in
theorem ctx_walkSecond (l : Launch) (dC : Nat → ClassId) (dI : Nat → Nat → Nat) (h0 : Nat) (q_words : Nat) (k_words : ClassId) (sz : Nat) (v_atp : Int32) (v_vsAtp : Int32) (v_hgatp : Int32) (v_rights : Int32) (v_latestPlace : Int32) (v_latestSecond : Int32) (v_latestEntry : Int32) (v_refusedAddress : Int64) (v_refusedEntry : Int32) (m_words : Nat → Int32) (a0 : Int32) (a1 : Int64) (a2 : Int32) (ha2 : a2 = 0 ∨ a2 = 1) : MWl l yX0_walkSecond wsX0_walkSecond ({ frames := 2, cells := 0, slots := 0, locals := 48 }) (dC, dI) vwCl [(k_words, .int)] [.ref h0, .int a0, .long a1, .int a2] sz (wx h0 q_words k_words v_atp v_vsAtp v_hgatp v_rights v_latestPlace v_latestSecond v_latestEntry v_refusedAddress v_refusedEntry m_words) (fun u : Int64 × Int64 × Int32 => (wx h0 q_words k_words v_atp v_vsAtp v_hgatp v_rights v_latestPlace v_latestSecond v_latestEntry u.2.1 u.2.2 m_words)) (fun u : Int64 × Int64 × Int32 => u.1) (fx_walkSecond v_hgatp v_rights v_refusedAddress v_refusedEntry m_words a0 a1 a2) := by
  refine Met.ofW (cc := cX0_walkSecond) (maxL := 8) (ret := (some .long)) (by decide) rfl ?_
  intro p e s m args below meth c s₁ B hml hv
  obtain ⟨rfl, hsz, hP, hK, hD0⟩ := hv
  have hx := B.exec
  have hb := B.bytes
  have hr := B.returns
  have hts := atoms_spec (ws := wsX0_walkSecond) B.pre
  have hown : s.vm.findClass RX0 = some m.cls := findClass_of_methodNamed B.named
  have hlocks := B.notSynchronized
  subst hsz
  have hwX : ∀ w ∈ u_ws RX0 TX0 10, w ∈ wsX0_walkSecond := by decide +kernel
  have hD := hD0.self (sz := s.heap.size)
  generalize hAe : va_A (wx h0 q_words k_words v_atp v_vsAtp v_hgatp v_rights v_latestPlace v_latestSecond v_latestEntry v_refusedAddress v_refusedEntry m_words) s.heap.size = A at hD ⊢
  have hA : ∀ q : Nat, s.heap.size ≤ q → A q := fun q h => by rw [← hAe]; exact Or.inr h
  have hS : va_S A s.heap s.heap [] := va_S.rf
  have hP : va_P (dC, dI) vwCl (wx h0 q_words k_words v_atp v_vsAtp v_hgatp v_rights v_latestPlace v_latestSecond v_latestEntry v_refusedAddress v_refusedEntry m_words) s.heap := hP
  have hl := lv_entry ([.ref h0, .int a0, .long a1, .int a2]) (n := 8) (Nat.le_of_ble_eq_true rfl)
  rw [lg_entry_eq]
  generalize (lg_sl ([.ref h0, .int a0, .long a1, .int a2]) ++ List.replicate (8 - (lg_sl ([.ref h0, .int a0, .long a1, .int a2])).length) Slot.unset).toArray = ls at hl ⊢
  have hl : lv_has ls 8 [(0, .ref h0), (1, .int a0), (2, .long a1), (4, .int a2)] := hl
  refine lv_aload_n hx hb dX0_walkSecond_0 rfl (lv_at hl 0 rfl) ?_
  refine lv_iload_n hx hb dX0_walkSecond_1 rfl (lv_at hl 1 rfl) ?_
  refine lv_aload_n hx hb dX0_walkSecond_2 rfl (lv_at hl 0 rfl) ?_
  refine va_get (D := (dC, dI)) (ci := 0) (v := .int v_hgatp) (C := RX0) (T := TX0) (N := 10) hx hb hts hwX hown hK hP 0 rfl rfl 3 (by decide) (hts (.fieldLink RX0 30 "StageWalker" "hgatp" "I") (by decide +kernel)) (fun _ h9 => h9) rfl dX0_walkSecond_3 ?_
  refine lv_ldc hx hb hown (hts (.constant RX0 123 4194300) (by decide +kernel)) dX0_walkSecond_6 ?_
  refine lv_iand hx hb dX0_walkSecond_8 ?_
  refine lv_lload_n hx hb dX0_walkSecond_9 rfl (lv_at hl 2 rfl) ?_
  refine cs_l (va_runS (As := [.int (v_hgatp &&& 4194300), .long a1]) (rest := [.int a0, .ref h0]) ⟨hx, hb, hml, hown, hts⟩ (ctx_upperEntry l s.heap.size (v_hgatp &&& 4194300) a1) (va_cwS 2 hts gX0_walkSecond_X0_upperEntry rfl rfl rfl (by decide +kernel) ⟨Nat.le_of_ble_eq_true rfl, Nat.le_of_ble_eq_true rfl⟩) ⟨fun a U g mk q => q, fun U hU hW => ⟨rfl, congrArg Array.size hU⟩⟩ rfl rfl hl.1 rfl (lv_room (Nat.le_of_ble_eq_true rfl)) dX0_walkSecond_10 ⟨Nat.zero_le _, Nat.zero_le _⟩) hA hP hS (fun H locs hP hS => ?_)
  refine cr_l (va_runV (As := [.int a0, .long ((fx_upperEntry (v_hgatp &&& 4194300) a1))]) (rest := []) ⟨hx, hb, hml, hown, hts⟩ (ctx_entryAt l dC dI h0 q_words k_words H.size v_atp v_vsAtp v_hgatp v_rights v_latestPlace v_latestSecond v_latestEntry v_refusedAddress v_refusedEntry m_words a0 ((fx_upperEntry (v_hgatp &&& 4194300) a1))) (cwV 2 hts gX0_walkSecond_X0_entryAt rfl rfl rfl (by decide +kernel) ⟨Nat.le_of_ble_eq_true rfl, Nat.le_of_ble_eq_true rfl⟩) ⟨fun a U g mk q => ⟨q.1, q.2.1, q.2.2.1, va_K.moved (u := U) (U := U.calling g mk a) (Vm.Alike.refl U.vm) q.2.2.2.1, q.2.2.2.2⟩, va_recv hK hP (ci := 0) (q0 := 0) rfl rfl, fun U hU hW => ⟨rfl, by rw [hU], by rw [hU]; exact hP, va_K.moved hW.alike hK, hD.weaken (fun _ _ _ _ => trivial)⟩⟩ rfl rfl hl.1 rfl (lv_room (Nat.le_of_ble_eq_true rfl)) dX0_walkSecond_13 ⟨Nat.zero_le _, Nat.zero_le _⟩) hA hD hP hS (fun H locs hP hS => ?_)
  refine lv_topl (fun z_1 ez_1 => ?_)
  refine lv_lstore (lv' := [(5, .long z_1), (0, .ref h0), (1, .int a0), (2, .long a1), (4, .int a2)]) hx hb dX0_walkSecond_16 hl (by decide) rfl (fun ls hl => ?_)
  refine lv_lload hx hb dX0_walkSecond_18 (lv_at hl 0 rfl) ?_
  refine cs_i (va_runS (As := [.long z_1]) (rest := []) ⟨hx, hb, hml, hown, hts⟩ (ctx_isTable l H.size z_1) (va_cwS 1 hts gX0_walkSecond_X0_isTable rfl rfl rfl (by decide +kernel) ⟨Nat.le_of_ble_eq_true rfl, Nat.le_of_ble_eq_true rfl⟩) ⟨fun a U g mk q => q, fun U hU hW => ⟨rfl, congrArg Array.size hU⟩⟩ rfl rfl hl.1 rfl (lv_room (Nat.le_of_ble_eq_true rfl)) dX0_walkSecond_20 ⟨Nat.zero_le _, Nat.zero_le _⟩) hA hP hS (fun H locs hP hS => ?_)
  refine lj_i (j := 31) (z0 := if ((fx_isTable z_1)) = 0 then 1 else 0) (rest := []) hP hS (fun H locs hP hS z_2 ez_2 => ?_) (fun J31_23 => ?_)
  · skip
    have oz_2 : z_2 = 0 ∨ z_2 = 1 := by rw [ez_2]; exact ite01 (Or.inr rfl) (Or.inl rfl)
    refine lv_istore (lv' := [(7, .int z_2), (5, .long z_1), (0, .ref h0), (1, .int a0), (2, .long a1), (4, .int a2)]) hx hb dX0_walkSecond_31 hl (by decide) rfl (fun ls hl => ?_)
    refine lv_lload hx hb dX0_walkSecond_33 (lv_at hl 1 rfl) ?_
    refine lv_lconst (v := 0) hx hb dX0_walkSecond_35 (by decide) ?_
    refine lq_lt (tgt := 58) hx hb dX0_walkSecond_36 dX0_walkSecond_37 (by decide) (fun c_37 => ?_) (fun c_37 => ?_)
    · skip
      refine lv_lload hx hb dX0_walkSecond_58 (lv_at hl 1 rfl) ?_
      refine lv_lconst (v := 0) hx hb dX0_walkSecond_60 (by decide) ?_
      refine lq_ge (tgt := 68) hx hb dX0_walkSecond_61 dX0_walkSecond_62 (by decide) (fun c_62 => ?_) (fun c_62 => ?_)
      · skip
        exact absurd c_37 c_62
      · skip
        refine lv_lload hx hb dX0_walkSecond_65 (lv_at hl 1 rfl) ?_
        exact W.lret (v := z_1) hx hb hr (fun t ht hW => ⟨⟨_, (z_1, v_refusedAddress, v_refusedEntry), rfl, ⟨rfl, by subst ez_2; subst ez_1; first | (rw [fx_walkSecond, if_pos c_37]; done) | (simp only [fx_walkSecond, if_pos c_37]; done) | (rw [fx_walkSecond, if_pos c_37] <;> rfl)⟩, by rw [ht]; exact hP, va_K.moved hW.alike hK, hD⟩, hS.F ht⟩) hS.2.2 dX0_walkSecond_67
    · skip
      refine lv_iload hx hb dX0_walkSecond_40 (lv_at hl 0 rfl) ?_
      refine lv_if_ne (tgt := 58) hx hb dX0_walkSecond_42 (by decide) (fun c_42 => ?_) (fun c_42 => ?_)
      · skip
        refine lv_lload hx hb dX0_walkSecond_58 (lv_at hl 1 rfl) ?_
        refine lv_lconst (v := 0) hx hb dX0_walkSecond_60 (by decide) ?_
        refine lq_ge (tgt := 68) hx hb dX0_walkSecond_61 dX0_walkSecond_62 (by decide) (fun c_62 => ?_) (fun c_62 => ?_)
        · skip
          refine lv_lload hx hb dX0_walkSecond_68 (lv_at hl 1 rfl) ?_
          refine lv_iload hx hb dX0_walkSecond_70 (lv_at hl 0 rfl) ?_
          refine cs_i (va_runS (As := [.long z_1, .int z_2]) (rest := []) ⟨hx, hb, hml, hown, hts⟩ (ctx_isGoodLeaf l H.size z_1 z_2) (va_cwS 2 hts gX0_walkSecond_X0_isGoodLeaf rfl rfl rfl (by decide +kernel) ⟨Nat.le_of_ble_eq_true rfl, Nat.le_of_ble_eq_true rfl⟩) ⟨fun a U g mk q => q, fun U hU hW => ⟨rfl, congrArg Array.size hU⟩⟩ rfl rfl hl.1 rfl (lv_room (Nat.le_of_ble_eq_true rfl)) dX0_walkSecond_72 ⟨Nat.zero_le _, Nat.zero_le _⟩) hA hP hS (fun H locs hP hS => ?_)
          refine lv_if_eq (tgt := 99) hx hb dX0_walkSecond_75 (by decide) (fun c_75 => ?_) (fun c_75 => ?_)
          · skip
            refine lv_aload_n hx hb dX0_walkSecond_99 rfl (lv_at hl 2 rfl) ?_
            refine lv_lload_n hx hb dX0_walkSecond_100 rfl (lv_at hl 4 rfl) ?_
            refine va_put (D := (dC, dI)) (ci := 0) (v := .long a1) (ty := .long) (C := RX0) (T := TX0) (N := 10) hx hb hts hwX tyX0 tyX0_ok nmX0 hown hK hP hD hS 0 rfl rfl 8 (by decide) (hts (.fieldLink RX0 62 "StageWalker" "refusedAddress" "J") (by decide +kernel)) (fun _ h9 => h9) rfl (by decide +kernel) rfl rfl (Nat.le_of_ble_eq_true rfl) dX0_walkSecond_101 (fun H locs hP hD hS => ?_)
            have hP : va_P (dC, dI) vwCl (wx h0 q_words k_words v_atp v_vsAtp v_hgatp v_rights v_latestPlace v_latestSecond v_latestEntry a1 v_refusedEntry m_words) H := hP
            have hD : va_D A (wx h0 q_words k_words v_atp v_vsAtp v_hgatp v_rights v_latestPlace v_latestSecond v_latestEntry a1 v_refusedEntry m_words) := hD
            refine lv_aload_n hx hb dX0_walkSecond_104 rfl (lv_at hl 2 rfl) ?_
            refine lv_iload hx hb dX0_walkSecond_105 (lv_at hl 5 rfl) ?_
            refine va_put (D := (dC, dI)) (ci := 0) (v := .int a2) (ty := .boolean) (C := RX0) (T := TX0) (N := 10) hx hb hts hwX tyX0 tyX0_ok nmX0 hown hK hP hD hS 0 rfl rfl 9 (by decide) (hts (.fieldLink RX0 66 "StageWalker" "refusedEntry" "Z") (by decide +kernel)) (fun _ h9 => h9) rfl (by decide +kernel) (nb_z ha2) (fb_z ha2) (Nat.le_of_ble_eq_true rfl) dX0_walkSecond_107 (fun H locs hP hD hS => ?_)
            have hP : va_P (dC, dI) vwCl (wx h0 q_words k_words v_atp v_vsAtp v_hgatp v_rights v_latestPlace v_latestSecond v_latestEntry a1 a2 m_words) H := hP
            have hD : va_D A (wx h0 q_words k_words v_atp v_vsAtp v_hgatp v_rights v_latestPlace v_latestSecond v_latestEntry a1 a2 m_words) := hD
            refine lv_iload_n hx hb dX0_walkSecond_110 rfl (lv_at hl 3 rfl) ?_
            refine cs_l (va_runS (As := [.int a0]) (rest := []) ⟨hx, hb, hml, hown, hts⟩ (ctx_secondFault l H.size a0) (va_cwS 1 hts gX0_walkSecond_X0_secondFault rfl rfl rfl (by decide +kernel) ⟨Nat.le_of_ble_eq_true rfl, Nat.le_of_ble_eq_true rfl⟩) ⟨fun a U g mk q => q, fun U hU hW => ⟨rfl, congrArg Array.size hU⟩⟩ rfl rfl hl.1 rfl (lv_room (Nat.le_of_ble_eq_true rfl)) dX0_walkSecond_111 ⟨Nat.zero_le _, Nat.zero_le _⟩) hA hP hS (fun H locs hP hS => ?_)
            exact W.lret (v := (fx_secondFault a0)) hx hb hr (fun t ht hW => ⟨⟨_, ((fx_secondFault a0), a1, a2), rfl, ⟨rfl, by subst ez_2; subst ez_1; first | (rw [fx_walkSecond, if_neg c_37, if_neg c_42, if_pos c_75]; done) | (simp only [fx_walkSecond, if_neg c_37, if_neg c_42, if_pos c_75]; done) | (rw [fx_walkSecond, if_neg c_37, if_neg c_42, if_pos c_75] <;> rfl)⟩, by rw [ht]; exact hP, va_K.moved hW.alike hK, hD⟩, hS.F ht⟩) hS.2.2 dX0_walkSecond_114
          · skip
            refine lv_aload_n hx hb dX0_walkSecond_78 rfl (lv_at hl 2 rfl) ?_
            refine lv_iload_n hx hb dX0_walkSecond_79 rfl (lv_at hl 3 rfl) ?_
            refine lv_lload hx hb dX0_walkSecond_80 (lv_at hl 1 rfl) ?_
            refine lv_iload hx hb dX0_walkSecond_82 (lv_at hl 5 rfl) ?_
            refine cr_i (va_runV (As := [.int a0, .long z_1, .int a2]) (rest := []) ⟨hx, hb, hml, hown, hts⟩ (ctx_secondAllows l dC dI h0 q_words k_words H.size v_atp v_vsAtp v_hgatp v_rights v_latestPlace v_latestSecond v_latestEntry v_refusedAddress v_refusedEntry m_words a0 z_1 a2) (cwV 3 hts gX0_walkSecond_X0_secondAllows rfl rfl rfl (by decide +kernel) ⟨Nat.le_of_ble_eq_true rfl, Nat.le_of_ble_eq_true rfl⟩) ⟨fun a U g mk q => ⟨q.1, q.2.1, q.2.2.1, va_K.moved (u := U) (U := U.calling g mk a) (Vm.Alike.refl U.vm) q.2.2.2.1, q.2.2.2.2⟩, va_recv hK hP (ci := 0) (q0 := 0) rfl rfl, fun U hU hW => ⟨rfl, by rw [hU], by rw [hU]; exact hP, va_K.moved hW.alike hK, hD.weaken (fun _ _ _ _ => trivial)⟩⟩ rfl rfl hl.1 rfl (lv_room (Nat.le_of_ble_eq_true rfl)) dX0_walkSecond_84 ⟨Nat.zero_le _, Nat.zero_le _⟩) hA hD hP hS (fun H locs hP hS => ?_)
            refine lv_if_eq (tgt := 99) hx hb dX0_walkSecond_87 (by decide) (fun c_87 => ?_) (fun c_87 => ?_)
            · skip
              refine lv_aload_n hx hb dX0_walkSecond_99 rfl (lv_at hl 2 rfl) ?_
              refine lv_lload_n hx hb dX0_walkSecond_100 rfl (lv_at hl 4 rfl) ?_
              refine va_put (D := (dC, dI)) (ci := 0) (v := .long a1) (ty := .long) (C := RX0) (T := TX0) (N := 10) hx hb hts hwX tyX0 tyX0_ok nmX0 hown hK hP hD hS 0 rfl rfl 8 (by decide) (hts (.fieldLink RX0 62 "StageWalker" "refusedAddress" "J") (by decide +kernel)) (fun _ h9 => h9) rfl (by decide +kernel) rfl rfl (Nat.le_of_ble_eq_true rfl) dX0_walkSecond_101 (fun H locs hP hD hS => ?_)
              have hP : va_P (dC, dI) vwCl (wx h0 q_words k_words v_atp v_vsAtp v_hgatp v_rights v_latestPlace v_latestSecond v_latestEntry a1 v_refusedEntry m_words) H := hP
              have hD : va_D A (wx h0 q_words k_words v_atp v_vsAtp v_hgatp v_rights v_latestPlace v_latestSecond v_latestEntry a1 v_refusedEntry m_words) := hD
              refine lv_aload_n hx hb dX0_walkSecond_104 rfl (lv_at hl 2 rfl) ?_
              refine lv_iload hx hb dX0_walkSecond_105 (lv_at hl 5 rfl) ?_
              refine va_put (D := (dC, dI)) (ci := 0) (v := .int a2) (ty := .boolean) (C := RX0) (T := TX0) (N := 10) hx hb hts hwX tyX0 tyX0_ok nmX0 hown hK hP hD hS 0 rfl rfl 9 (by decide) (hts (.fieldLink RX0 66 "StageWalker" "refusedEntry" "Z") (by decide +kernel)) (fun _ h9 => h9) rfl (by decide +kernel) (nb_z ha2) (fb_z ha2) (Nat.le_of_ble_eq_true rfl) dX0_walkSecond_107 (fun H locs hP hD hS => ?_)
              have hP : va_P (dC, dI) vwCl (wx h0 q_words k_words v_atp v_vsAtp v_hgatp v_rights v_latestPlace v_latestSecond v_latestEntry a1 a2 m_words) H := hP
              have hD : va_D A (wx h0 q_words k_words v_atp v_vsAtp v_hgatp v_rights v_latestPlace v_latestSecond v_latestEntry a1 a2 m_words) := hD
              refine lv_iload_n hx hb dX0_walkSecond_110 rfl (lv_at hl 3 rfl) ?_
              refine cs_l (va_runS (As := [.int a0]) (rest := []) ⟨hx, hb, hml, hown, hts⟩ (ctx_secondFault l H.size a0) (va_cwS 1 hts gX0_walkSecond_X0_secondFault rfl rfl rfl (by decide +kernel) ⟨Nat.le_of_ble_eq_true rfl, Nat.le_of_ble_eq_true rfl⟩) ⟨fun a U g mk q => q, fun U hU hW => ⟨rfl, congrArg Array.size hU⟩⟩ rfl rfl hl.1 rfl (lv_room (Nat.le_of_ble_eq_true rfl)) dX0_walkSecond_111 ⟨Nat.zero_le _, Nat.zero_le _⟩) hA hP hS (fun H locs hP hS => ?_)
              exact W.lret (v := (fx_secondFault a0)) hx hb hr (fun t ht hW => ⟨⟨_, ((fx_secondFault a0), a1, a2), rfl, ⟨rfl, by subst ez_2; subst ez_1; first | (rw [fx_walkSecond, if_neg c_37, if_neg c_42, if_neg c_75, if_pos c_87]; done) | (simp only [fx_walkSecond, if_neg c_37, if_neg c_42, if_neg c_75, if_pos c_87]; done) | (rw [fx_walkSecond, if_neg c_37, if_neg c_42, if_neg c_75, if_pos c_87] <;> rfl)⟩, by rw [ht]; exact hP, va_K.moved hW.alike hK, hD⟩, hS.F ht⟩) hS.2.2 dX0_walkSecond_114
            · skip
              refine lv_lload hx hb dX0_walkSecond_90 (lv_at hl 1 rfl) ?_
              refine lv_iload hx hb dX0_walkSecond_92 (lv_at hl 0 rfl) ?_
              refine lv_lload_n hx hb dX0_walkSecond_94 rfl (lv_at hl 4 rfl) ?_
              refine cs_l (va_runS (As := [.long z_1, .int z_2, .long a1]) (rest := []) ⟨hx, hb, hml, hown, hts⟩ (ctx_result l H.size z_1 z_2 a1) (va_cwS 3 hts gX0_walkSecond_X0_result rfl rfl rfl (by decide +kernel) ⟨Nat.le_of_ble_eq_true rfl, Nat.le_of_ble_eq_true rfl⟩) ⟨fun a U g mk q => q, fun U hU hW => ⟨rfl, congrArg Array.size hU⟩⟩ rfl rfl hl.1 rfl (lv_room (Nat.le_of_ble_eq_true rfl)) dX0_walkSecond_95 ⟨Nat.zero_le _, Nat.zero_le _⟩) hA hP hS (fun H locs hP hS => ?_)
              exact W.lret (v := (fx_result z_1 z_2 a1)) hx hb hr (fun t ht hW => ⟨⟨_, ((fx_result z_1 z_2 a1), v_refusedAddress, v_refusedEntry), rfl, ⟨rfl, by subst ez_2; subst ez_1; first | (rw [fx_walkSecond, if_neg c_37, if_neg c_42, if_neg c_75, if_neg c_87]; done) | (simp only [fx_walkSecond, if_neg c_37, if_neg c_42, if_neg c_75, if_neg c_87]; done) | (rw [fx_walkSecond, if_neg c_37, if_neg c_42, if_neg c_75, if_neg c_87] <;> rfl)⟩, by rw [ht]; exact hP, va_K.moved hW.alike hK, hD⟩, hS.F ht⟩) hS.2.2 dX0_walkSecond_98
        · skip
          exact absurd c_62 c_37
      · skip
        refine lv_aload_n hx hb dX0_walkSecond_45 rfl (lv_at hl 2 rfl) ?_
        refine lv_iload_n hx hb dX0_walkSecond_46 rfl (lv_at hl 3 rfl) ?_
        refine lv_lload hx hb dX0_walkSecond_47 (lv_at hl 1 rfl) ?_
        refine lv_lload_n hx hb dX0_walkSecond_49 rfl (lv_at hl 4 rfl) ?_
        refine cs_l (va_runS (As := [.long z_1, .long a1]) (rest := [.int a0, .ref h0]) ⟨hx, hb, hml, hown, hts⟩ (ctx_lowerEntry l H.size z_1 a1) (va_cwS 2 hts gX0_walkSecond_X0_lowerEntry rfl rfl rfl (by decide +kernel) ⟨Nat.le_of_ble_eq_true rfl, Nat.le_of_ble_eq_true rfl⟩) ⟨fun a U g mk q => q, fun U hU hW => ⟨rfl, congrArg Array.size hU⟩⟩ rfl rfl hl.1 rfl (lv_room (Nat.le_of_ble_eq_true rfl)) dX0_walkSecond_50 ⟨Nat.zero_le _, Nat.zero_le _⟩) hA hP hS (fun H locs hP hS => ?_)
        refine cr_l (va_runV (As := [.int a0, .long ((fx_lowerEntry z_1 a1))]) (rest := []) ⟨hx, hb, hml, hown, hts⟩ (ctx_entryAt l dC dI h0 q_words k_words H.size v_atp v_vsAtp v_hgatp v_rights v_latestPlace v_latestSecond v_latestEntry v_refusedAddress v_refusedEntry m_words a0 ((fx_lowerEntry z_1 a1))) (cwV 2 hts gX0_walkSecond_X0_entryAt rfl rfl rfl (by decide +kernel) ⟨Nat.le_of_ble_eq_true rfl, Nat.le_of_ble_eq_true rfl⟩) ⟨fun a U g mk q => ⟨q.1, q.2.1, q.2.2.1, va_K.moved (u := U) (U := U.calling g mk a) (Vm.Alike.refl U.vm) q.2.2.2.1, q.2.2.2.2⟩, va_recv hK hP (ci := 0) (q0 := 0) rfl rfl, fun U hU hW => ⟨rfl, by rw [hU], by rw [hU]; exact hP, va_K.moved hW.alike hK, hD.weaken (fun _ _ _ _ => trivial)⟩⟩ rfl rfl hl.1 rfl (lv_room (Nat.le_of_ble_eq_true rfl)) dX0_walkSecond_53 ⟨Nat.zero_le _, Nat.zero_le _⟩) hA hD hP hS (fun H locs hP hS => ?_)
        refine lv_topl (fun z_3 ez_3 => ?_)
        refine lv_lstore (lv' := [(5, .long z_3), (7, .int z_2), (0, .ref h0), (1, .int a0), (2, .long a1), (4, .int a2)]) hx hb dX0_walkSecond_56 hl (by decide) rfl (fun ls hl => ?_)
        refine lv_lload hx hb dX0_walkSecond_58 (lv_at hl 0 rfl) ?_
        refine lv_lconst (v := 0) hx hb dX0_walkSecond_60 (by decide) ?_
        refine lq_ge (tgt := 68) hx hb dX0_walkSecond_61 dX0_walkSecond_62 (by decide) (fun c_62 => ?_) (fun c_62 => ?_)
        · skip
          refine lv_lload hx hb dX0_walkSecond_68 (lv_at hl 0 rfl) ?_
          refine lv_iload hx hb dX0_walkSecond_70 (lv_at hl 1 rfl) ?_
          refine cs_i (va_runS (As := [.long z_3, .int z_2]) (rest := []) ⟨hx, hb, hml, hown, hts⟩ (ctx_isGoodLeaf l H.size z_3 z_2) (va_cwS 2 hts gX0_walkSecond_X0_isGoodLeaf rfl rfl rfl (by decide +kernel) ⟨Nat.le_of_ble_eq_true rfl, Nat.le_of_ble_eq_true rfl⟩) ⟨fun a U g mk q => q, fun U hU hW => ⟨rfl, congrArg Array.size hU⟩⟩ rfl rfl hl.1 rfl (lv_room (Nat.le_of_ble_eq_true rfl)) dX0_walkSecond_72 ⟨Nat.zero_le _, Nat.zero_le _⟩) hA hP hS (fun H locs hP hS => ?_)
          refine lv_if_eq (tgt := 99) hx hb dX0_walkSecond_75 (by decide) (fun c_75 => ?_) (fun c_75 => ?_)
          · skip
            refine lv_aload_n hx hb dX0_walkSecond_99 rfl (lv_at hl 2 rfl) ?_
            refine lv_lload_n hx hb dX0_walkSecond_100 rfl (lv_at hl 4 rfl) ?_
            refine va_put (D := (dC, dI)) (ci := 0) (v := .long a1) (ty := .long) (C := RX0) (T := TX0) (N := 10) hx hb hts hwX tyX0 tyX0_ok nmX0 hown hK hP hD hS 0 rfl rfl 8 (by decide) (hts (.fieldLink RX0 62 "StageWalker" "refusedAddress" "J") (by decide +kernel)) (fun _ h9 => h9) rfl (by decide +kernel) rfl rfl (Nat.le_of_ble_eq_true rfl) dX0_walkSecond_101 (fun H locs hP hD hS => ?_)
            have hP : va_P (dC, dI) vwCl (wx h0 q_words k_words v_atp v_vsAtp v_hgatp v_rights v_latestPlace v_latestSecond v_latestEntry a1 v_refusedEntry m_words) H := hP
            have hD : va_D A (wx h0 q_words k_words v_atp v_vsAtp v_hgatp v_rights v_latestPlace v_latestSecond v_latestEntry a1 v_refusedEntry m_words) := hD
            refine lv_aload_n hx hb dX0_walkSecond_104 rfl (lv_at hl 2 rfl) ?_
            refine lv_iload hx hb dX0_walkSecond_105 (lv_at hl 5 rfl) ?_
            refine va_put (D := (dC, dI)) (ci := 0) (v := .int a2) (ty := .boolean) (C := RX0) (T := TX0) (N := 10) hx hb hts hwX tyX0 tyX0_ok nmX0 hown hK hP hD hS 0 rfl rfl 9 (by decide) (hts (.fieldLink RX0 66 "StageWalker" "refusedEntry" "Z") (by decide +kernel)) (fun _ h9 => h9) rfl (by decide +kernel) (nb_z ha2) (fb_z ha2) (Nat.le_of_ble_eq_true rfl) dX0_walkSecond_107 (fun H locs hP hD hS => ?_)
            have hP : va_P (dC, dI) vwCl (wx h0 q_words k_words v_atp v_vsAtp v_hgatp v_rights v_latestPlace v_latestSecond v_latestEntry a1 a2 m_words) H := hP
            have hD : va_D A (wx h0 q_words k_words v_atp v_vsAtp v_hgatp v_rights v_latestPlace v_latestSecond v_latestEntry a1 a2 m_words) := hD
            refine lv_iload_n hx hb dX0_walkSecond_110 rfl (lv_at hl 3 rfl) ?_
            refine cs_l (va_runS (As := [.int a0]) (rest := []) ⟨hx, hb, hml, hown, hts⟩ (ctx_secondFault l H.size a0) (va_cwS 1 hts gX0_walkSecond_X0_secondFault rfl rfl rfl (by decide +kernel) ⟨Nat.le_of_ble_eq_true rfl, Nat.le_of_ble_eq_true rfl⟩) ⟨fun a U g mk q => q, fun U hU hW => ⟨rfl, congrArg Array.size hU⟩⟩ rfl rfl hl.1 rfl (lv_room (Nat.le_of_ble_eq_true rfl)) dX0_walkSecond_111 ⟨Nat.zero_le _, Nat.zero_le _⟩) hA hP hS (fun H locs hP hS => ?_)
            exact W.lret (v := (fx_secondFault a0)) hx hb hr (fun t ht hW => ⟨⟨_, ((fx_secondFault a0), a1, a2), rfl, ⟨rfl, by subst ez_3; subst ez_2; subst ez_1; first | (rw [fx_walkSecond, if_neg c_37, if_pos c_42, if_neg c_62, if_pos c_75]; done) | (simp only [fx_walkSecond, if_neg c_37, if_pos c_42, if_neg c_62, if_pos c_75]; done) | (rw [fx_walkSecond, if_neg c_37, if_pos c_42, if_neg c_62, if_pos c_75] <;> rfl)⟩, by rw [ht]; exact hP, va_K.moved hW.alike hK, hD⟩, hS.F ht⟩) hS.2.2 dX0_walkSecond_114
          · skip
            refine lv_aload_n hx hb dX0_walkSecond_78 rfl (lv_at hl 2 rfl) ?_
            refine lv_iload_n hx hb dX0_walkSecond_79 rfl (lv_at hl 3 rfl) ?_
            refine lv_lload hx hb dX0_walkSecond_80 (lv_at hl 0 rfl) ?_
            refine lv_iload hx hb dX0_walkSecond_82 (lv_at hl 5 rfl) ?_
            refine cr_i (va_runV (As := [.int a0, .long z_3, .int a2]) (rest := []) ⟨hx, hb, hml, hown, hts⟩ (ctx_secondAllows l dC dI h0 q_words k_words H.size v_atp v_vsAtp v_hgatp v_rights v_latestPlace v_latestSecond v_latestEntry v_refusedAddress v_refusedEntry m_words a0 z_3 a2) (cwV 3 hts gX0_walkSecond_X0_secondAllows rfl rfl rfl (by decide +kernel) ⟨Nat.le_of_ble_eq_true rfl, Nat.le_of_ble_eq_true rfl⟩) ⟨fun a U g mk q => ⟨q.1, q.2.1, q.2.2.1, va_K.moved (u := U) (U := U.calling g mk a) (Vm.Alike.refl U.vm) q.2.2.2.1, q.2.2.2.2⟩, va_recv hK hP (ci := 0) (q0 := 0) rfl rfl, fun U hU hW => ⟨rfl, by rw [hU], by rw [hU]; exact hP, va_K.moved hW.alike hK, hD.weaken (fun _ _ _ _ => trivial)⟩⟩ rfl rfl hl.1 rfl (lv_room (Nat.le_of_ble_eq_true rfl)) dX0_walkSecond_84 ⟨Nat.zero_le _, Nat.zero_le _⟩) hA hD hP hS (fun H locs hP hS => ?_)
            refine lv_if_eq (tgt := 99) hx hb dX0_walkSecond_87 (by decide) (fun c_87 => ?_) (fun c_87 => ?_)
            · skip
              refine lv_aload_n hx hb dX0_walkSecond_99 rfl (lv_at hl 2 rfl) ?_
              refine lv_lload_n hx hb dX0_walkSecond_100 rfl (lv_at hl 4 rfl) ?_
              refine va_put (D := (dC, dI)) (ci := 0) (v := .long a1) (ty := .long) (C := RX0) (T := TX0) (N := 10) hx hb hts hwX tyX0 tyX0_ok nmX0 hown hK hP hD hS 0 rfl rfl 8 (by decide) (hts (.fieldLink RX0 62 "StageWalker" "refusedAddress" "J") (by decide +kernel)) (fun _ h9 => h9) rfl (by decide +kernel) rfl rfl (Nat.le_of_ble_eq_true rfl) dX0_walkSecond_101 (fun H locs hP hD hS => ?_)
              have hP : va_P (dC, dI) vwCl (wx h0 q_words k_words v_atp v_vsAtp v_hgatp v_rights v_latestPlace v_latestSecond v_latestEntry a1 v_refusedEntry m_words) H := hP
              have hD : va_D A (wx h0 q_words k_words v_atp v_vsAtp v_hgatp v_rights v_latestPlace v_latestSecond v_latestEntry a1 v_refusedEntry m_words) := hD
              refine lv_aload_n hx hb dX0_walkSecond_104 rfl (lv_at hl 2 rfl) ?_
              refine lv_iload hx hb dX0_walkSecond_105 (lv_at hl 5 rfl) ?_
              refine va_put (D := (dC, dI)) (ci := 0) (v := .int a2) (ty := .boolean) (C := RX0) (T := TX0) (N := 10) hx hb hts hwX tyX0 tyX0_ok nmX0 hown hK hP hD hS 0 rfl rfl 9 (by decide) (hts (.fieldLink RX0 66 "StageWalker" "refusedEntry" "Z") (by decide +kernel)) (fun _ h9 => h9) rfl (by decide +kernel) (nb_z ha2) (fb_z ha2) (Nat.le_of_ble_eq_true rfl) dX0_walkSecond_107 (fun H locs hP hD hS => ?_)
              have hP : va_P (dC, dI) vwCl (wx h0 q_words k_words v_atp v_vsAtp v_hgatp v_rights v_latestPlace v_latestSecond v_latestEntry a1 a2 m_words) H := hP
              have hD : va_D A (wx h0 q_words k_words v_atp v_vsAtp v_hgatp v_rights v_latestPlace v_latestSecond v_latestEntry a1 a2 m_words) := hD
              refine lv_iload_n hx hb dX0_walkSecond_110 rfl (lv_at hl 3 rfl) ?_
              refine cs_l (va_runS (As := [.int a0]) (rest := []) ⟨hx, hb, hml, hown, hts⟩ (ctx_secondFault l H.size a0) (va_cwS 1 hts gX0_walkSecond_X0_secondFault rfl rfl rfl (by decide +kernel) ⟨Nat.le_of_ble_eq_true rfl, Nat.le_of_ble_eq_true rfl⟩) ⟨fun a U g mk q => q, fun U hU hW => ⟨rfl, congrArg Array.size hU⟩⟩ rfl rfl hl.1 rfl (lv_room (Nat.le_of_ble_eq_true rfl)) dX0_walkSecond_111 ⟨Nat.zero_le _, Nat.zero_le _⟩) hA hP hS (fun H locs hP hS => ?_)
              exact W.lret (v := (fx_secondFault a0)) hx hb hr (fun t ht hW => ⟨⟨_, ((fx_secondFault a0), a1, a2), rfl, ⟨rfl, by subst ez_3; subst ez_2; subst ez_1; first | (rw [fx_walkSecond, if_neg c_37, if_pos c_42, if_neg c_62, if_neg c_75, if_pos c_87]; done) | (simp only [fx_walkSecond, if_neg c_37, if_pos c_42, if_neg c_62, if_neg c_75, if_pos c_87]; done) | (rw [fx_walkSecond, if_neg c_37, if_pos c_42, if_neg c_62, if_neg c_75, if_pos c_87] <;> rfl)⟩, by rw [ht]; exact hP, va_K.moved hW.alike hK, hD⟩, hS.F ht⟩) hS.2.2 dX0_walkSecond_114
            · skip
              refine lv_lload hx hb dX0_walkSecond_90 (lv_at hl 0 rfl) ?_
              refine lv_iload hx hb dX0_walkSecond_92 (lv_at hl 1 rfl) ?_
              refine lv_lload_n hx hb dX0_walkSecond_94 rfl (lv_at hl 4 rfl) ?_
              refine cs_l (va_runS (As := [.long z_3, .int z_2, .long a1]) (rest := []) ⟨hx, hb, hml, hown, hts⟩ (ctx_result l H.size z_3 z_2 a1) (va_cwS 3 hts gX0_walkSecond_X0_result rfl rfl rfl (by decide +kernel) ⟨Nat.le_of_ble_eq_true rfl, Nat.le_of_ble_eq_true rfl⟩) ⟨fun a U g mk q => q, fun U hU hW => ⟨rfl, congrArg Array.size hU⟩⟩ rfl rfl hl.1 rfl (lv_room (Nat.le_of_ble_eq_true rfl)) dX0_walkSecond_95 ⟨Nat.zero_le _, Nat.zero_le _⟩) hA hP hS (fun H locs hP hS => ?_)
              exact W.lret (v := (fx_result z_3 z_2 a1)) hx hb hr (fun t ht hW => ⟨⟨_, ((fx_result z_3 z_2 a1), v_refusedAddress, v_refusedEntry), rfl, ⟨rfl, by subst ez_3; subst ez_2; subst ez_1; first | (rw [fx_walkSecond, if_neg c_37, if_pos c_42, if_neg c_62, if_neg c_75, if_neg c_87]; done) | (simp only [fx_walkSecond, if_neg c_37, if_pos c_42, if_neg c_62, if_neg c_75, if_neg c_87]; done) | (rw [fx_walkSecond, if_neg c_37, if_pos c_42, if_neg c_62, if_neg c_75, if_neg c_87] <;> rfl)⟩, by rw [ht]; exact hP, va_K.moved hW.alike hK, hD⟩, hS.F ht⟩) hS.2.2 dX0_walkSecond_98
        · skip
          refine lv_lload hx hb dX0_walkSecond_65 (lv_at hl 0 rfl) ?_
          exact W.lret (v := z_3) hx hb hr (fun t ht hW => ⟨⟨_, (z_3, v_refusedAddress, v_refusedEntry), rfl, ⟨rfl, by subst ez_3; subst ez_2; subst ez_1; first | (rw [fx_walkSecond, if_neg c_37, if_pos c_42, if_pos c_62]; done) | (simp only [fx_walkSecond, if_neg c_37, if_pos c_42, if_pos c_62]; done) | (rw [fx_walkSecond, if_neg c_37, if_pos c_42, if_pos c_62] <;> rfl)⟩, by rw [ht]; exact hP, va_K.moved hW.alike hK, hD⟩, hS.F ht⟩) hS.2.2 dX0_walkSecond_67
  · skip
    refine lv_if_ne (tgt := 30) hx hb dX0_walkSecond_23 (by decide) (fun c_23 => ?_) (fun c_23 => ?_)
    · skip
      refine lv_iconst (v := 0) hx hb dX0_walkSecond_30 (by decide) ?_
      exact W.eq (by rw [if_neg c_23] <;> rfl) (J31_23 _ _ hP hS)
    · skip
      refine lv_iconst (v := 1) hx hb dX0_walkSecond_26 (by decide) ?_
      refine lv_goto (tgt := 31) hx hb dX0_walkSecond_27 (by decide) ?_
      exact W.eq (by rw [if_pos c_23] <;> rfl) (J31_23 _ _ hP hS)
def fx_throughSecond (v_hgatp : Int32) (v_rights : Int32) (v_refusedAddress : Int64) (v_refusedEntry : Int32) (m_words : Nat → Int32) (a0 : Int32) (a1 : Int32) (a2 : Int64) (a3 : Int32) : Int64 × Int64 × Int32 := if ((if a2 < 0 then 0 else if ((fx_isVirtual a0)) = 0 then 0 else if 0 ≤ v_hgatp then 0 else 1 : Int32)) = 0 then (a2, v_refusedAddress, v_refusedEntry) else ((fx_walkSecond v_hgatp v_rights v_refusedAddress v_refusedEntry m_words a1 a2 a3).1, (fx_walkSecond v_hgatp v_rights v_refusedAddress v_refusedEntry m_words a1 a2 a3).2.1, (fx_walkSecond v_hgatp v_rights v_refusedAddress v_refusedEntry m_words a1 a2 a3).2.2)
set_option maxHeartbeats 4000000 in
set_option maxRecDepth 100000 in
theorem ctx_throughSecond (l : Launch) (dC : Nat → ClassId) (dI : Nat → Nat → Nat) (h0 : Nat) (q_words : Nat) (k_words : ClassId) (sz : Nat) (v_atp : Int32) (v_vsAtp : Int32) (v_hgatp : Int32) (v_rights : Int32) (v_latestPlace : Int32) (v_latestSecond : Int32) (v_latestEntry : Int32) (v_refusedAddress : Int64) (v_refusedEntry : Int32) (m_words : Nat → Int32) (a0 : Int32) (a1 : Int32) (a2 : Int64) (a3 : Int32) (ha3 : a3 = 0 ∨ a3 = 1) : MWl l yX0_throughSecond wsX0_throughSecond ({ frames := 3, cells := 0, slots := 0, locals := 75 }) (dC, dI) vwCl [(k_words, .int)] [.ref h0, .int a0, .int a1, .long a2, .int a3] sz (wx h0 q_words k_words v_atp v_vsAtp v_hgatp v_rights v_latestPlace v_latestSecond v_latestEntry v_refusedAddress v_refusedEntry m_words) (fun u : Int64 × Int64 × Int32 => (wx h0 q_words k_words v_atp v_vsAtp v_hgatp v_rights v_latestPlace v_latestSecond v_latestEntry u.2.1 u.2.2 m_words)) (fun u : Int64 × Int64 × Int32 => u.1) (fx_throughSecond v_hgatp v_rights v_refusedAddress v_refusedEntry m_words a0 a1 a2 a3) := by
  refine Met.ofW (cc := cX0_throughSecond) (maxL := 7) (ret := (some .long)) (by decide) rfl ?_
  intro p e s m args below meth c s₁ B hml hv
  obtain ⟨rfl, hsz, hP, hK, hD0⟩ := hv
  have hx := B.exec
  have hb := B.bytes
  have hr := B.returns
  have hts := atoms_spec (ws := wsX0_throughSecond) B.pre
  have hown : s.vm.findClass RX0 = some m.cls := findClass_of_methodNamed B.named
  have hlocks := B.notSynchronized
  subst hsz
  have hwX : ∀ w ∈ u_ws RX0 TX0 10, w ∈ wsX0_throughSecond := by decide +kernel
  have hD := hD0.self (sz := s.heap.size)
  generalize hAe : va_A (wx h0 q_words k_words v_atp v_vsAtp v_hgatp v_rights v_latestPlace v_latestSecond v_latestEntry v_refusedAddress v_refusedEntry m_words) s.heap.size = A at hD ⊢
  have hA : ∀ q : Nat, s.heap.size ≤ q → A q := fun q h => by rw [← hAe]; exact Or.inr h
  have hS : va_S A s.heap s.heap [] := va_S.rf
  have hP : va_P (dC, dI) vwCl (wx h0 q_words k_words v_atp v_vsAtp v_hgatp v_rights v_latestPlace v_latestSecond v_latestEntry v_refusedAddress v_refusedEntry m_words) s.heap := hP
  have hl := lv_entry ([.ref h0, .int a0, .int a1, .long a2, .int a3]) (n := 7) (Nat.le_of_ble_eq_true rfl)
  rw [lg_entry_eq]
  generalize (lg_sl ([.ref h0, .int a0, .int a1, .long a2, .int a3]) ++ List.replicate (7 - (lg_sl ([.ref h0, .int a0, .int a1, .long a2, .int a3])).length) Slot.unset).toArray = ls at hl ⊢
  have hl : lv_has ls 7 [(0, .ref h0), (1, .int a0), (2, .int a1), (3, .long a2), (5, .int a3)] := hl
  refine lv_lload_n hx hb dX0_throughSecond_0 rfl (lv_at hl 3 rfl) ?_
  refine lv_lconst (v := 0) hx hb dX0_throughSecond_1 (by decide) ?_
  refine lj_i (j := 25) (z0 := if a2 < 0 then 0 else if ((fx_isVirtual a0)) = 0 then 0 else if 0 ≤ v_hgatp then 0 else 1) (rest := []) hP hS (fun H locs hP hS z_1 ez_1 => ?_) (fun J25_3 => ?_)
  · skip
    have oz_1 : z_1 = 0 ∨ z_1 = 1 := by rw [ez_1]; exact ite01 (Or.inl rfl) (ite01 (Or.inl rfl) (ite01 (Or.inl rfl) (Or.inr rfl)))
    refine lv_istore (lv' := [(6, .int z_1), (0, .ref h0), (1, .int a0), (2, .int a1), (3, .long a2), (5, .int a3)]) hx hb dX0_throughSecond_25 hl (by decide) rfl (fun ls hl => ?_)
    refine lv_iload hx hb dX0_throughSecond_27 (lv_at hl 0 rfl) ?_
    refine lv_if_eq (tgt := 43) hx hb dX0_throughSecond_29 (by decide) (fun c_29 => ?_) (fun c_29 => ?_)
    · skip
      refine lv_lload_n hx hb dX0_throughSecond_43 rfl (lv_at hl 4 rfl) ?_
      exact W.lret (v := a2) hx hb hr (fun t ht hW => ⟨⟨_, (a2, v_refusedAddress, v_refusedEntry), rfl, ⟨rfl, by subst ez_1; first | (rw [fx_throughSecond, if_pos c_29]; done) | (simp only [fx_throughSecond, if_pos c_29]; done) | (rw [fx_throughSecond, if_pos c_29] <;> rfl)⟩, by rw [ht]; exact hP, va_K.moved hW.alike hK, hD⟩, hS.F ht⟩) hS.2.2 dX0_throughSecond_44
    · skip
      refine lv_aload_n hx hb dX0_throughSecond_32 rfl (lv_at hl 1 rfl) ?_
      refine lv_iload_n hx hb dX0_throughSecond_33 rfl (lv_at hl 3 rfl) ?_
      refine lv_lload_n hx hb dX0_throughSecond_34 rfl (lv_at hl 4 rfl) ?_
      refine lv_iload hx hb dX0_throughSecond_35 (lv_at hl 5 rfl) ?_
      refine cw_l (va_runV (As := [.int a1, .long a2, .int a3]) (rest := []) ⟨hx, hb, hml, hown, hts⟩ (ctx_walkSecond l dC dI h0 q_words k_words H.size v_atp v_vsAtp v_hgatp v_rights v_latestPlace v_latestSecond v_latestEntry v_refusedAddress v_refusedEntry m_words a1 a2 a3 ha3) (cwV 3 hts gX0_throughSecond_X0_walkSecond rfl rfl rfl (by decide +kernel) ⟨Nat.le_of_ble_eq_true rfl, Nat.le_of_ble_eq_true rfl⟩) ⟨fun a U g mk q => ⟨q.1, q.2.1, q.2.2.1, va_K.moved (u := U) (U := U.calling g mk a) (Vm.Alike.refl U.vm) q.2.2.2.1, q.2.2.2.2⟩, va_recv hK hP (ci := 0) (q0 := 0) rfl rfl, fun U hU hW => ⟨rfl, by rw [hU], by rw [hU]; exact hP, va_K.moved hW.alike hK, hD.weaken (fun _ _ _ _ => trivial)⟩⟩ rfl rfl hl.1 rfl (lv_room (Nat.le_of_ble_eq_true rfl)) dX0_throughSecond_37 ⟨Nat.zero_le _, Nat.zero_le _⟩) hA hD hP hS (fun o_2 H locs eo_2 hP hD hS => ?_)
      have hP : va_P (dC, dI) vwCl (wx h0 q_words k_words v_atp v_vsAtp v_hgatp v_rights v_latestPlace v_latestSecond v_latestEntry o_2.2.1 o_2.2.2 m_words) H := hP
      have hD : va_D A (wx h0 q_words k_words v_atp v_vsAtp v_hgatp v_rights v_latestPlace v_latestSecond v_latestEntry o_2.2.1 o_2.2.2 m_words) := hD
      refine lv_goto (tgt := 44) hx hb dX0_throughSecond_40 (by decide) ?_
      exact W.lret (v := o_2.1) hx hb hr (fun t ht hW => ⟨⟨_, (o_2.1, o_2.2.1, o_2.2.2), rfl, ⟨rfl, by subst eo_2; subst ez_1; first | (rw [fx_throughSecond, if_neg c_29]; done) | (simp only [fx_throughSecond, if_neg c_29]; done) | (rw [fx_throughSecond, if_neg c_29] <;> rfl)⟩, by rw [ht]; exact hP, va_K.moved hW.alike hK, hD⟩, hS.F ht⟩) hS.2.2 dX0_throughSecond_44
  · skip
    refine lq_lt (tgt := 24) hx hb dX0_throughSecond_2 dX0_throughSecond_3 (by decide) (fun c_3 => ?_) (fun c_3 => ?_)
    · skip
      refine lv_iconst (v := 0) hx hb dX0_throughSecond_24 (by decide) ?_
      exact W.eq (by rw [if_pos c_3] <;> rfl) (J25_3 _ _ hP hS)
    · skip
      refine lv_iload_n hx hb dX0_throughSecond_6 rfl (lv_at hl 1 rfl) ?_
      refine cs_i (va_runS (As := [.int a0]) (rest := []) ⟨hx, hb, hml, hown, hts⟩ (ctx_isVirtual l s.heap.size a0) (va_cwS 1 hts gX0_throughSecond_X0_isVirtual rfl rfl rfl (by decide +kernel) ⟨Nat.le_of_ble_eq_true rfl, Nat.le_of_ble_eq_true rfl⟩) ⟨fun a U g mk q => q, fun U hU hW => ⟨rfl, congrArg Array.size hU⟩⟩ rfl rfl hl.1 rfl (lv_room (Nat.le_of_ble_eq_true rfl)) dX0_throughSecond_7 ⟨Nat.zero_le _, Nat.zero_le _⟩) hA hP hS (fun H locs hP hS => ?_)
      refine lv_if_eq (tgt := 24) hx hb dX0_throughSecond_10 (by decide) (fun c_10 => ?_) (fun c_10 => ?_)
      · skip
        refine lv_iconst (v := 0) hx hb dX0_throughSecond_24 (by decide) ?_
        exact W.eq (by rw [if_neg c_3, if_pos c_10] <;> rfl) (J25_3 _ _ hP hS)
      · skip
        refine lv_aload_n hx hb dX0_throughSecond_13 rfl (lv_at hl 0 rfl) ?_
        refine va_get (D := (dC, dI)) (ci := 0) (v := .int v_hgatp) (C := RX0) (T := TX0) (N := 10) hx hb hts hwX hown hK hP 0 rfl rfl 3 (by decide) (hts (.fieldLink RX0 30 "StageWalker" "hgatp" "I") (by decide +kernel)) (fun _ h9 => h9) rfl dX0_throughSecond_14 ?_
        refine lv_if_ge (tgt := 24) hx hb dX0_throughSecond_17 (by decide) (fun c_17 => ?_) (fun c_17 => ?_)
        · skip
          refine lv_iconst (v := 0) hx hb dX0_throughSecond_24 (by decide) ?_
          exact W.eq (by rw [if_neg c_3, if_neg c_10, if_pos c_17] <;> rfl) (J25_3 _ _ hP hS)
        · skip
          refine lv_iconst (v := 1) hx hb dX0_throughSecond_20 (by decide) ?_
          refine lv_goto (tgt := 25) hx hb dX0_throughSecond_21 (by decide) ?_
          exact W.eq (by rw [if_neg c_3, if_neg c_10, if_neg c_17] <;> rfl) (J25_3 _ _ hP hS)
