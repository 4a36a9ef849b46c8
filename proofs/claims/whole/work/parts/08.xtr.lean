/-! StageWalker.translate, pages -/
def fx_translate (v_atp : Int32) (v_vsAtp : Int32) (v_hgatp : Int32) (v_rights : Int32) (v_latestPlace : Int32) (v_latestSecond : Int32) (v_latestEntry : Int32) (v_refusedAddress : Int64) (v_refusedEntry : Int32) (m_words : Nat → Int32) (a0 : Int32) (a1 : Int32) (a2 : Int32) : Int32 × Int32 × Int32 × Int32 × Int64 × Int32 := if ((fx_isKnown a0 a1)) = 0 then ((-1), v_latestPlace, v_latestSecond, v_latestEntry, v_refusedAddress, v_refusedEntry) else if ((fx_lead v_atp v_vsAtp v_hgatp v_rights v_refusedAddress v_refusedEntry m_words a0 a1 (a2.toInt64 &&& 4294967295)).1) < 0 then ((-((fx_lead v_atp v_vsAtp v_hgatp v_rights v_refusedAddress v_refusedEntry m_words a0 a1 (a2.toInt64 &&& 4294967295)).1)).toInt32, (if ((fx_lead v_atp v_vsAtp v_hgatp v_rights v_refusedAddress v_refusedEntry m_words a0 a1 (a2.toInt64 &&& 4294967295)).1) < 0 then (-1) else ((fx_lead v_atp v_vsAtp v_hgatp v_rights v_refusedAddress v_refusedEntry m_words a0 a1 (a2.toInt64 &&& 4294967295)).1).toInt32 : Int32), (if ((if ((fx_lead v_atp v_vsAtp v_hgatp v_rights v_refusedAddress v_refusedEntry m_words a0 a1 (a2.toInt64 &&& 4294967295)).1) = ((fx_secondFault a1)) then 1 else 0 : Int32)) = 0 then 0 else (jlushr ((fx_lead v_atp v_vsAtp v_hgatp v_rights v_refusedAddress v_refusedEntry m_words a0 a1 (a2.toInt64 &&& 4294967295)).2.1) 2).toInt32 : Int32), (if ((if ((fx_lead v_atp v_vsAtp v_hgatp v_rights v_refusedAddress v_refusedEntry m_words a0 a1 (a2.toInt64 &&& 4294967295)).1) = ((fx_secondFault a1)) then 1 else 0 : Int32)) = 0 then 0 else if ((fx_lead v_atp v_vsAtp v_hgatp v_rights v_refusedAddress v_refusedEntry m_words a0 a1 (a2.toInt64 &&& 4294967295)).2.2) = 0 then 0 else 1 : Int32), (fx_lead v_atp v_vsAtp v_hgatp v_rights v_refusedAddress v_refusedEntry m_words a0 a1 (a2.toInt64 &&& 4294967295)).2.1, (fx_lead v_atp v_vsAtp v_hgatp v_rights v_refusedAddress v_refusedEntry m_words a0 a1 (a2.toInt64 &&& 4294967295)).2.2) else (0, (if ((fx_lead v_atp v_vsAtp v_hgatp v_rights v_refusedAddress v_refusedEntry m_words a0 a1 (a2.toInt64 &&& 4294967295)).1) < 0 then (-1) else ((fx_lead v_atp v_vsAtp v_hgatp v_rights v_refusedAddress v_refusedEntry m_words a0 a1 (a2.toInt64 &&& 4294967295)).1).toInt32 : Int32), (if ((if ((fx_lead v_atp v_vsAtp v_hgatp v_rights v_refusedAddress v_refusedEntry m_words a0 a1 (a2.toInt64 &&& 4294967295)).1) = ((fx_secondFault a1)) then 1 else 0 : Int32)) = 0 then 0 else (jlushr ((fx_lead v_atp v_vsAtp v_hgatp v_rights v_refusedAddress v_refusedEntry m_words a0 a1 (a2.toInt64 &&& 4294967295)).2.1) 2).toInt32 : Int32), (if ((if ((fx_lead v_atp v_vsAtp v_hgatp v_rights v_refusedAddress v_refusedEntry m_words a0 a1 (a2.toInt64 &&& 4294967295)).1) = ((fx_secondFault a1)) then 1 else 0 : Int32)) = 0 then 0 else if ((fx_lead v_atp v_vsAtp v_hgatp v_rights v_refusedAddress v_refusedEntry m_words a0 a1 (a2.toInt64 &&& 4294967295)).2.2) = 0 then 0 else 1 : Int32), (fx_lead v_atp v_vsAtp v_hgatp v_rights v_refusedAddress v_refusedEntry m_words a0 a1 (a2.toInt64 &&& 4294967295)).2.1, (fx_lead v_atp v_vsAtp v_hgatp v_rights v_refusedAddress v_refusedEntry m_words a0 a1 (a2.toInt64 &&& 4294967295)).2.2)
set_option maxHeartbeats 4000000 in
set_option maxRecDepth 100000 in
theorem ctx_translate (l : Launch) (dC : Nat → ClassId) (dI : Nat → Nat → Nat) (h0 : Nat) (q_words : Nat) (k_words : ClassId) (sz : Nat) (v_atp : Int32) (v_vsAtp : Int32) (v_hgatp : Int32) (v_rights : Int32) (v_latestPlace : Int32) (v_latestSecond : Int32) (v_latestEntry : Int32) (v_refusedAddress : Int64) (v_refusedEntry : Int32) (m_words : Nat → Int32) (a0 : Int32) (a1 : Int32) (a2 : Int32) : MWi l yX0_translate wsX0_translate ({ frames := 6, cells := 0, slots := 0, locals := 161 }) (dC, dI) vwCl [(k_words, .int)] [.ref h0, .int a0, .int a1, .int a2] sz (wx h0 q_words k_words v_atp v_vsAtp v_hgatp v_rights v_latestPlace v_latestSecond v_latestEntry v_refusedAddress v_refusedEntry m_words) (fun u : Int32 × Int32 × Int32 × Int32 × Int64 × Int32 => (wx h0 q_words k_words v_atp v_vsAtp v_hgatp v_rights u.2.1 u.2.2.1 u.2.2.2.1 u.2.2.2.2.1 u.2.2.2.2.2 m_words)) (fun u : Int32 × Int32 × Int32 × Int32 × Int64 × Int32 => u.1) (fx_translate v_atp v_vsAtp v_hgatp v_rights v_latestPlace v_latestSecond v_latestEntry v_refusedAddress v_refusedEntry m_words a0 a1 a2) := by
  refine Met.ofW (cc := cX0_translate) (maxL := 7) (ret := (some .int)) (by decide) rfl ?_
  intro p e s m args below meth c s₁ B hml hv
  obtain ⟨rfl, hsz, hP, hK, hD0⟩ := hv
  have hx := B.exec
  have hb := B.bytes
  have hr := B.returns
  have hts := atoms_spec (ws := wsX0_translate) B.pre
  have hown : s.vm.findClass RX0 = some m.cls := findClass_of_methodNamed B.named
  have hlocks := B.notSynchronized
  subst hsz
  have hwX : ∀ w ∈ u_ws RX0 TX0 10, w ∈ wsX0_translate := by decide +kernel
  have hD := hD0.self (sz := s.heap.size)
  generalize hAe : va_A (wx h0 q_words k_words v_atp v_vsAtp v_hgatp v_rights v_latestPlace v_latestSecond v_latestEntry v_refusedAddress v_refusedEntry m_words) s.heap.size = A at hD ⊢
  have hA : ∀ q : Nat, s.heap.size ≤ q → A q := fun q h => by rw [← hAe]; exact Or.inr h
  have hS : va_S A s.heap s.heap [] := va_S.rf
  have hP : va_P (dC, dI) vwCl (wx h0 q_words k_words v_atp v_vsAtp v_hgatp v_rights v_latestPlace v_latestSecond v_latestEntry v_refusedAddress v_refusedEntry m_words) s.heap := hP
  have hl := lv_entry ([.ref h0, .int a0, .int a1, .int a2]) (n := 7) (Nat.le_of_ble_eq_true rfl)
  rw [lg_entry_eq]
  generalize (lg_sl ([.ref h0, .int a0, .int a1, .int a2]) ++ List.replicate (7 - (lg_sl ([.ref h0, .int a0, .int a1, .int a2])).length) Slot.unset).toArray = ls at hl ⊢
  have hl : lv_has ls 7 [(0, .ref h0), (1, .int a0), (2, .int a1), (3, .int a2)] := hl
  refine lv_iload_n hx hb dX0_translate_0 rfl (lv_at hl 1 rfl) ?_
  refine lv_iload_n hx hb dX0_translate_1 rfl (lv_at hl 2 rfl) ?_
  refine cs_i (va_runS (As := [.int a0, .int a1]) (rest := []) ⟨hx, hb, hml, hown, hts⟩ (ctx_isKnown l s.heap.size a0 a1) (va_cwS 2 hts gX0_translate_X0_isKnown rfl rfl rfl (by decide +kernel) ⟨Nat.le_of_ble_eq_true rfl, Nat.le_of_ble_eq_true rfl⟩) ⟨fun a U g mk q => q, fun U hU hW => ⟨rfl, congrArg Array.size hU⟩⟩ rfl rfl hl.1 rfl (lv_room (Nat.le_of_ble_eq_true rfl)) dX0_translate_2 ⟨Nat.zero_le _, Nat.zero_le _⟩) hA hP hS (fun H locs hP hS => ?_)
  refine lv_if_ne (tgt := 10) hx hb dX0_translate_5 (by decide) (fun c_5 => ?_) (fun c_5 => ?_)
  · skip
    refine lv_aload_n hx hb dX0_translate_10 rfl (lv_at hl 0 rfl) ?_
    refine lv_iload_n hx hb dX0_translate_11 rfl (lv_at hl 1 rfl) ?_
    refine lv_iload_n hx hb dX0_translate_12 rfl (lv_at hl 2 rfl) ?_
    refine lv_iload_n hx hb dX0_translate_13 rfl (lv_at hl 3 rfl) ?_
    refine lv_i2l (v := a2.toInt64) hx hb dX0_translate_14 rfl ?_
    refine lv_ldc2 hx hb hown (hts (.constantLong RX0 52 4294967295) (by decide +kernel)) dX0_translate_15 ?_
    refine lv_land hx hb dX0_translate_18 ?_
    refine cw_l (va_runV (As := [.int a0, .int a1, .long (a2.toInt64 &&& 4294967295)]) (rest := []) ⟨hx, hb, hml, hown, hts⟩ (ctx_lead l dC dI h0 q_words k_words H.size v_atp v_vsAtp v_hgatp v_rights v_latestPlace v_latestSecond v_latestEntry v_refusedAddress v_refusedEntry m_words a0 a1 (a2.toInt64 &&& 4294967295)) (cwV 3 hts gX0_translate_X0_lead rfl rfl rfl (by decide +kernel) ⟨Nat.le_of_ble_eq_true rfl, Nat.le_of_ble_eq_true rfl⟩) ⟨fun a U g mk q => ⟨q.1, q.2.1, q.2.2.1, va_K.moved (u := U) (U := U.calling g mk a) (Vm.Alike.refl U.vm) q.2.2.2.1, q.2.2.2.2⟩, va_recv hK hP (ci := 0) (q0 := 0) rfl rfl, fun U hU hW => ⟨rfl, by rw [hU], by rw [hU]; exact hP, va_K.moved hW.alike hK, hD.weaken (fun _ _ _ _ => trivial)⟩⟩ rfl rfl hl.1 rfl (lv_room (Nat.le_of_ble_eq_true rfl)) dX0_translate_19 ⟨Nat.zero_le _, Nat.zero_le _⟩) hA hD hP hS (fun o_1 H locs eo_1 hP hD hS => ?_)
    have hP : va_P (dC, dI) vwCl (wx h0 q_words k_words v_atp v_vsAtp v_hgatp v_rights v_latestPlace v_latestSecond v_latestEntry o_1.2.1 o_1.2.2 m_words) H := hP
    have hD : va_D A (wx h0 q_words k_words v_atp v_vsAtp v_hgatp v_rights v_latestPlace v_latestSecond v_latestEntry o_1.2.1 o_1.2.2 m_words) := hD
    refine lv_topl (fun z_2 ez_2 => ?_)
    refine lv_lstore (lv' := [(4, .long z_2), (0, .ref h0), (1, .int a0), (2, .int a1), (3, .int a2)]) hx hb dX0_translate_22 hl (by decide) rfl (fun ls hl => ?_)
    refine lv_lload hx hb dX0_translate_24 (lv_at hl 0 rfl) ?_
    refine lv_iload_n hx hb dX0_translate_26 rfl (lv_at hl 3 rfl) ?_
    refine cs_l (va_runS (As := [.int a1]) (rest := [.long z_2]) ⟨hx, hb, hml, hown, hts⟩ (ctx_secondFault l H.size a1) (va_cwS 1 hts gX0_translate_X0_secondFault rfl rfl rfl (by decide +kernel) ⟨Nat.le_of_ble_eq_true rfl, Nat.le_of_ble_eq_true rfl⟩) ⟨fun a U g mk q => q, fun U hU hW => ⟨rfl, congrArg Array.size hU⟩⟩ rfl rfl hl.1 rfl (lv_room (Nat.le_of_ble_eq_true rfl)) dX0_translate_27 ⟨Nat.zero_le _, Nat.zero_le _⟩) hA hP hS (fun H locs hP hS => ?_)
    refine lj_i (j := 39) (z0 := if z_2 = ((fx_secondFault a1)) then 1 else 0) (rest := []) hP hS (fun H locs hP hS z_3 ez_3 => ?_) (fun J39_31 => ?_)
    · skip
      have oz_3 : z_3 = 0 ∨ z_3 = 1 := by rw [ez_3]; exact ite01 (Or.inr rfl) (Or.inl rfl)
      refine lv_istore (lv' := [(6, .int z_3), (4, .long z_2), (0, .ref h0), (1, .int a0), (2, .int a1), (3, .int a2)]) hx hb dX0_translate_39 hl (by decide) rfl (fun ls hl => ?_)
      refine lv_aload_n hx hb dX0_translate_41 rfl (lv_at hl 2 rfl) ?_
      refine lv_lload hx hb dX0_translate_42 (lv_at hl 1 rfl) ?_
      refine lv_lconst (v := 0) hx hb dX0_translate_44 (by decide) ?_
      refine lj_i (j := 56) (z0 := if z_2 < 0 then (-1) else z_2.toInt32) (rest := [.ref h0]) hP hS (fun H locs hP hS z_4 ez_4 => ?_) (fun J56_46 => ?_)
      · skip
        refine va_put (D := (dC, dI)) (ci := 0) (v := .int z_4) (ty := .int) (C := RX0) (T := TX0) (N := 10) hx hb hts hwX tyX0 tyX0_ok nmX0 hown hK hP hD hS 0 rfl rfl 5 (by decide) (hts (.fieldLink RX0 14 "StageWalker" "latestPlace" "I") (by decide +kernel)) (fun _ h9 => h9) rfl (by decide +kernel) rfl rfl (Nat.le_of_ble_eq_true rfl) dX0_translate_56 (fun H locs hP hD hS => ?_)
        have hP : va_P (dC, dI) vwCl (wx h0 q_words k_words v_atp v_vsAtp v_hgatp v_rights z_4 v_latestSecond v_latestEntry o_1.2.1 o_1.2.2 m_words) H := hP
        have hD : va_D A (wx h0 q_words k_words v_atp v_vsAtp v_hgatp v_rights z_4 v_latestSecond v_latestEntry o_1.2.1 o_1.2.2 m_words) := hD
        refine lv_aload_n hx hb dX0_translate_59 rfl (lv_at hl 2 rfl) ?_
        refine lv_iload hx hb dX0_translate_60 (lv_at hl 0 rfl) ?_
        refine lj_i (j := 76) (z0 := if z_3 = 0 then 0 else (jlushr o_1.2.1 2).toInt32) (rest := [.ref h0]) hP hS (fun H locs hP hS z_5 ez_5 => ?_) (fun J76_62 => ?_)
        · skip
          refine va_put (D := (dC, dI)) (ci := 0) (v := .int z_5) (ty := .int) (C := RX0) (T := TX0) (N := 10) hx hb hts hwX tyX0 tyX0_ok nmX0 hown hK hP hD hS 0 rfl rfl 6 (by decide) (hts (.fieldLink RX0 36 "StageWalker" "latestSecond" "I") (by decide +kernel)) (fun _ h9 => h9) rfl (by decide +kernel) rfl rfl (Nat.le_of_ble_eq_true rfl) dX0_translate_76 (fun H locs hP hD hS => ?_)
          have hP : va_P (dC, dI) vwCl (wx h0 q_words k_words v_atp v_vsAtp v_hgatp v_rights z_4 z_5 v_latestEntry o_1.2.1 o_1.2.2 m_words) H := hP
          have hD : va_D A (wx h0 q_words k_words v_atp v_vsAtp v_hgatp v_rights z_4 z_5 v_latestEntry o_1.2.1 o_1.2.2 m_words) := hD
          refine lv_aload_n hx hb dX0_translate_79 rfl (lv_at hl 2 rfl) ?_
          refine lv_iload hx hb dX0_translate_80 (lv_at hl 0 rfl) ?_
          refine lj_i (j := 97) (z0 := if z_3 = 0 then 0 else if o_1.2.2 = 0 then 0 else 1) (rest := [.ref h0]) hP hS (fun H locs hP hS z_6 ez_6 => ?_) (fun J97_82 => ?_)
          · skip
            have oz_6 : z_6 = 0 ∨ z_6 = 1 := by rw [ez_6]; exact ite01 (Or.inl rfl) (ite01 (Or.inl rfl) (Or.inr rfl))
            refine va_put (D := (dC, dI)) (ci := 0) (v := .int z_6) (ty := .boolean) (C := RX0) (T := TX0) (N := 10) hx hb hts hwX tyX0 tyX0_ok nmX0 hown hK hP hD hS 0 rfl rfl 7 (by decide) (hts (.fieldLink RX0 39 "StageWalker" "latestEntry" "Z") (by decide +kernel)) (fun _ h9 => h9) rfl (by decide +kernel) (nb_z oz_6) (fb_z oz_6) (Nat.le_of_ble_eq_true rfl) dX0_translate_97 (fun H locs hP hD hS => ?_)
            have hP : va_P (dC, dI) vwCl (wx h0 q_words k_words v_atp v_vsAtp v_hgatp v_rights z_4 z_5 z_6 o_1.2.1 o_1.2.2 m_words) H := hP
            have hD : va_D A (wx h0 q_words k_words v_atp v_vsAtp v_hgatp v_rights z_4 z_5 z_6 o_1.2.1 o_1.2.2 m_words) := hD
            refine lv_lload hx hb dX0_translate_100 (lv_at hl 1 rfl) ?_
            refine lv_lconst (v := 0) hx hb dX0_translate_102 (by decide) ?_
            refine lq_ge (tgt := 114) hx hb dX0_translate_103 dX0_translate_104 (by decide) (fun c_104 => ?_) (fun c_104 => ?_)
            · skip
              refine lv_iconst (v := 0) hx hb dX0_translate_114 (by decide) ?_
              exact W.iret (v := 0) hx hb hr (fun t ht hW => ⟨⟨_, (0, z_4, z_5, z_6, o_1.2.1, o_1.2.2), rfl, ⟨rfl, by subst ez_6; subst ez_5; subst ez_4; subst ez_3; subst ez_2; subst eo_1; first | (rw [fx_translate, if_neg c_5, if_neg c_104]; done) | (simp only [fx_translate, if_neg c_5, if_neg c_104]; done) | (rw [fx_translate, if_neg c_5, if_neg c_104] <;> rfl)⟩, by rw [ht]; exact hP, va_K.moved hW.alike hK, hD⟩, hS.F ht⟩) hS.2.2 dX0_translate_115
            · skip
              refine lv_lload hx hb dX0_translate_107 (lv_at hl 1 rfl) ?_
              refine lv_lneg hx hb dX0_translate_109 ?_
              refine lv_l2i (v := (-z_2).toInt32) hx hb dX0_translate_110 rfl ?_
              refine lv_goto (tgt := 115) hx hb dX0_translate_111 (by decide) ?_
              exact W.iret (v := (-z_2).toInt32) hx hb hr (fun t ht hW => ⟨⟨_, ((-z_2).toInt32, z_4, z_5, z_6, o_1.2.1, o_1.2.2), rfl, ⟨rfl, by subst ez_6; subst ez_5; subst ez_4; subst ez_3; subst ez_2; subst eo_1; first | (rw [fx_translate, if_neg c_5, if_pos c_104]; done) | (simp only [fx_translate, if_neg c_5, if_pos c_104]; done) | (rw [fx_translate, if_neg c_5, if_pos c_104] <;> rfl)⟩, by rw [ht]; exact hP, va_K.moved hW.alike hK, hD⟩, hS.F ht⟩) hS.2.2 dX0_translate_115
          · skip
            refine lv_if_eq (tgt := 96) hx hb dX0_translate_82 (by decide) (fun c_82 => ?_) (fun c_82 => ?_)
            · skip
              refine lv_iconst (v := 0) hx hb dX0_translate_96 (by decide) ?_
              exact W.eq (by rw [if_pos c_82] <;> rfl) (J97_82 _ _ hP hS)
            · skip
              refine lv_aload_n hx hb dX0_translate_85 rfl (lv_at hl 2 rfl) ?_
              refine va_get (D := (dC, dI)) (ci := 0) (v := .int o_1.2.2) (C := RX0) (T := TX0) (N := 10) hx hb hts hwX hown hK hP 0 rfl rfl 9 (by decide) (hts (.fieldLink RX0 66 "StageWalker" "refusedEntry" "Z") (by decide +kernel)) (fun _ h9 => h9) rfl dX0_translate_86 ?_
              refine lv_if_eq (tgt := 96) hx hb dX0_translate_89 (by decide) (fun c_89 => ?_) (fun c_89 => ?_)
              · skip
                refine lv_iconst (v := 0) hx hb dX0_translate_96 (by decide) ?_
                exact W.eq (by rw [if_neg c_82, if_pos c_89] <;> rfl) (J97_82 _ _ hP hS)
              · skip
                refine lv_iconst (v := 1) hx hb dX0_translate_92 (by decide) ?_
                refine lv_goto (tgt := 97) hx hb dX0_translate_93 (by decide) ?_
                exact W.eq (by rw [if_neg c_82, if_neg c_89] <;> rfl) (J97_82 _ _ hP hS)
        · skip
          refine lv_if_eq (tgt := 75) hx hb dX0_translate_62 (by decide) (fun c_62 => ?_) (fun c_62 => ?_)
          · skip
            refine lv_iconst (v := 0) hx hb dX0_translate_75 (by decide) ?_
            exact W.eq (by rw [if_pos c_62] <;> rfl) (J76_62 _ _ hP hS)
          · skip
            refine lv_aload_n hx hb dX0_translate_65 rfl (lv_at hl 2 rfl) ?_
            refine va_get (D := (dC, dI)) (ci := 0) (v := .long o_1.2.1) (C := RX0) (T := TX0) (N := 10) hx hb hts hwX hown hK hP 0 rfl rfl 8 (by decide) (hts (.fieldLink RX0 62 "StageWalker" "refusedAddress" "J") (by decide +kernel)) (fun _ h9 => h9) rfl dX0_translate_66 ?_
            refine lv_iconst (v := 2) hx hb dX0_translate_69 (by decide) ?_
            refine lv_lushr (v := jlushr o_1.2.1 2) hx hb dX0_translate_70 rfl ?_
            refine lv_l2i (v := (jlushr o_1.2.1 2).toInt32) hx hb dX0_translate_71 rfl ?_
            refine lv_goto (tgt := 76) hx hb dX0_translate_72 (by decide) ?_
            exact W.eq (by rw [if_neg c_62] <;> rfl) (J76_62 _ _ hP hS)
      · skip
        refine lq_ge (tgt := 53) hx hb dX0_translate_45 dX0_translate_46 (by decide) (fun c_46 => ?_) (fun c_46 => ?_)
        · skip
          refine lv_lload hx hb dX0_translate_53 (lv_at hl 1 rfl) ?_
          refine lv_l2i (v := z_2.toInt32) hx hb dX0_translate_55 rfl ?_
          exact W.eq (by rw [if_neg c_46] <;> rfl) (J56_46 _ _ hP hS)
        · skip
          refine lv_iconst (v := -1) hx hb dX0_translate_49 (by decide) ?_
          refine lv_goto (tgt := 56) hx hb dX0_translate_50 (by decide) ?_
          exact W.eq (by rw [if_pos c_46] <;> rfl) (J56_46 _ _ hP hS)
    · skip
      refine lq_ne (tgt := 38) hx hb dX0_translate_30 dX0_translate_31 (by decide) (fun c_31 => ?_) (fun c_31 => ?_)
      · skip
        refine lv_iconst (v := 0) hx hb dX0_translate_38 (by decide) ?_
        exact W.eq (by rw [if_neg c_31] <;> rfl) (J39_31 _ _ hP hS)
      · skip
        refine lv_iconst (v := 1) hx hb dX0_translate_34 (by decide) ?_
        refine lv_goto (tgt := 39) hx hb dX0_translate_35 (by decide) ?_
        exact W.eq (by rw [if_pos c_31] <;> rfl) (J39_31 _ _ hP hS)
  · skip
    refine lv_iconst (v := -1) hx hb dX0_translate_8 (by decide) ?_
    exact W.iret (v := (-1)) hx hb hr (fun t ht hW => ⟨⟨_, ((-1), v_latestPlace, v_latestSecond, v_latestEntry, v_refusedAddress, v_refusedEntry), rfl, ⟨rfl, by first | (rw [fx_translate, if_pos c_5]; done) | (simp only [fx_translate, if_pos c_5]; done) | (rw [fx_translate, if_pos c_5] <;> rfl)⟩, by rw [ht]; exact hP, va_K.moved hW.alike hK, hD⟩, hS.F ht⟩) hS.2.2 dX0_translate_9
def fx_pl (v_atp : Int32) (v_vsAtp : Int32) (v_hgatp : Int32) (v_rights : Int32) (m_words : Nat → Int32) (a0 a1 : Int32) (fr : Int64) : Nat → Int32 → Int32 → Int64 → Int32 → Int32 × Int64 × Int32
  | 0, _, cn, ra, re => (cn, ra, re)
  | n + 1, i, cn, ra, re => if 4294967295 < (fr + i.toInt64 * 4096) then fx_pl v_atp v_vsAtp v_hgatp v_rights m_words a0 a1 fr n (i + 1) cn ra re else if (fx_lead v_atp v_vsAtp v_hgatp v_rights ra re m_words a0 a1 (fr + i.toInt64 * 4096)).1 < 0 then fx_pl v_atp v_vsAtp v_hgatp v_rights m_words a0 a1 fr n (i + 1) cn (fx_lead v_atp v_vsAtp v_hgatp v_rights ra re m_words a0 a1 (fr + i.toInt64 * 4096)).2.1 (fx_lead v_atp v_vsAtp v_hgatp v_rights ra re m_words a0 a1 (fr + i.toInt64 * 4096)).2.2 else fx_pl v_atp v_vsAtp v_hgatp v_rights m_words a0 a1 fr n (i + 1) (cn + 1) (fx_lead v_atp v_vsAtp v_hgatp v_rights ra re m_words a0 a1 (fr + i.toInt64 * 4096)).2.1 (fx_lead v_atp v_vsAtp v_hgatp v_rights ra re m_words a0 a1 (fr + i.toInt64 * 4096)).2.2
theorem fx_pl_0 (v_atp : Int32) (v_vsAtp : Int32) (v_hgatp : Int32) (v_rights : Int32) (m_words : Nat → Int32) (a0 a1 : Int32) (fr : Int64) (i cn : Int32) (ra : Int64) (re : Int32) : fx_pl v_atp v_vsAtp v_hgatp v_rights m_words a0 a1 fr 0 i cn ra re = (cn, ra, re) := rfl
theorem fx_pl_s (v_atp : Int32) (v_vsAtp : Int32) (v_hgatp : Int32) (v_rights : Int32) (m_words : Nat → Int32) (a0 a1 : Int32) (fr : Int64) (n : Nat) (i cn : Int32) (ra : Int64) (re : Int32) : fx_pl v_atp v_vsAtp v_hgatp v_rights m_words a0 a1 fr (n + 1) i cn ra re = (if 4294967295 < (fr + i.toInt64 * 4096) then fx_pl v_atp v_vsAtp v_hgatp v_rights m_words a0 a1 fr n (i + 1) cn ra re else if (fx_lead v_atp v_vsAtp v_hgatp v_rights ra re m_words a0 a1 (fr + i.toInt64 * 4096)).1 < 0 then fx_pl v_atp v_vsAtp v_hgatp v_rights m_words a0 a1 fr n (i + 1) cn (fx_lead v_atp v_vsAtp v_hgatp v_rights ra re m_words a0 a1 (fr + i.toInt64 * 4096)).2.1 (fx_lead v_atp v_vsAtp v_hgatp v_rights ra re m_words a0 a1 (fr + i.toInt64 * 4096)).2.2 else fx_pl v_atp v_vsAtp v_hgatp v_rights m_words a0 a1 fr n (i + 1) (cn + 1) (fx_lead v_atp v_vsAtp v_hgatp v_rights ra re m_words a0 a1 (fr + i.toInt64 * 4096)).2.1 (fx_lead v_atp v_vsAtp v_hgatp v_rights ra re m_words a0 a1 (fr + i.toInt64 * 4096)).2.2) := rfl
def fx_pages (v_atp : Int32) (v_vsAtp : Int32) (v_hgatp : Int32) (v_rights : Int32) (v_refusedAddress : Int64) (v_refusedEntry : Int32) (m_words : Nat → Int32) (a0 : Int32) (a1 : Int32) (a2 : Int32) (a3 : Int32) : Int32 × Int64 × Int32 := if a3 < 1 then ((-1), v_refusedAddress, v_refusedEntry) else if 1024 < a3 then ((-1), v_refusedAddress, v_refusedEntry) else if ((fx_isKnown a0 a1)) = 0 then ((-1), v_refusedAddress, v_refusedEntry) else fx_pl v_atp v_vsAtp v_hgatp v_rights m_words a0 a1 (a2.toInt64 &&& 4294967295) a3.toNatClampNeg 0 0 v_refusedAddress v_refusedEntry
set_option maxHeartbeats 4000000 in
set_option maxRecDepth 100000 in
theorem ctx_pages (l : Launch) (dC : Nat → ClassId) (dI : Nat → Nat → Nat) (h0 : Nat) (q_words : Nat) (k_words : ClassId) (sz : Nat) (v_atp : Int32) (v_vsAtp : Int32) (v_hgatp : Int32) (v_rights : Int32) (v_latestPlace : Int32) (v_latestSecond : Int32) (v_latestEntry : Int32) (v_refusedAddress : Int64) (v_refusedEntry : Int32) (m_words : Nat → Int32) (a0 : Int32) (a1 : Int32) (a2 : Int32) (a3 : Int32) : MWi l yX0_pages wsX0_pages ({ frames := 6, cells := 0, slots := 0, locals := 161 }) (dC, dI) vwCl [(k_words, .int)] [.ref h0, .int a0, .int a1, .int a2, .int a3] sz (wx h0 q_words k_words v_atp v_vsAtp v_hgatp v_rights v_latestPlace v_latestSecond v_latestEntry v_refusedAddress v_refusedEntry m_words) (fun u : Int32 × Int64 × Int32 => (wx h0 q_words k_words v_atp v_vsAtp v_hgatp v_rights v_latestPlace v_latestSecond v_latestEntry u.2.1 u.2.2 m_words)) (fun u : Int32 × Int64 × Int32 => u.1) (fx_pages v_atp v_vsAtp v_hgatp v_rights v_refusedAddress v_refusedEntry m_words a0 a1 a2 a3) := by
  refine Met.ofW (cc := cX0_pages) (maxL := 11) (ret := (some .int)) (by decide) rfl ?_
  intro p e s m args below meth c s₁ B hml hv
  obtain ⟨rfl, hsz, hP, hK, hD0⟩ := hv
  have hx := B.exec
  have hb := B.bytes
  have hr := B.returns
  have hts := atoms_spec (ws := wsX0_pages) B.pre
  have hown : s.vm.findClass RX0 = some m.cls := findClass_of_methodNamed B.named
  have hlocks := B.notSynchronized
  subst hsz
  have hD := hD0.self (sz := s.heap.size)
  generalize hAe : va_A (wx h0 q_words k_words v_atp v_vsAtp v_hgatp v_rights v_latestPlace v_latestSecond v_latestEntry v_refusedAddress v_refusedEntry m_words) s.heap.size = A at hD ⊢
  have hA : ∀ q : Nat, s.heap.size ≤ q → A q := fun q h => by rw [← hAe]; exact Or.inr h
  have hS : va_S A s.heap s.heap [] := va_S.rf
  have hP : va_P (dC, dI) vwCl (wx h0 q_words k_words v_atp v_vsAtp v_hgatp v_rights v_latestPlace v_latestSecond v_latestEntry v_refusedAddress v_refusedEntry m_words) s.heap := hP
  have hl := lv_entry ([.ref h0, .int a0, .int a1, .int a2, .int a3]) (n := 11) (Nat.le_of_ble_eq_true rfl)
  rw [lg_entry_eq]
  generalize (lg_sl ([.ref h0, .int a0, .int a1, .int a2, .int a3]) ++ List.replicate (11 - (lg_sl ([.ref h0, .int a0, .int a1, .int a2, .int a3])).length) Slot.unset).toArray = ls at hl ⊢
  have hl : lv_has ls 11 [(0, .ref h0), (1, .int a0), (2, .int a1), (3, .int a2), (4, .int a3)] := hl
  refine lv_iload hx hb dX0_pages_0 (lv_at hl 4 rfl) ?_
  refine lv_iconst (v := 1) hx hb dX0_pages_2 (by decide) ?_
  refine lv_icmp_lt (tgt := 22) hx hb dX0_pages_3 (by decide) (fun c_3 => ?_) (fun c_3 => ?_)
  · skip
    refine lv_iconst (v := -1) hx hb dX0_pages_22 (by decide) ?_
    exact W.iret (v := (-1)) hx hb hr (fun t ht hW => ⟨⟨_, ((-1), v_refusedAddress, v_refusedEntry), rfl, ⟨rfl, by first | (rw [fx_pages, if_pos c_3]; done) | (simp only [fx_pages, if_pos c_3]; done) | (rw [fx_pages, if_pos c_3] <;> rfl)⟩, by rw [ht]; exact hP, va_K.moved hW.alike hK, hD⟩, hS.F ht⟩) hS.2.2 dX0_pages_23
  · skip
    refine lv_iload hx hb dX0_pages_6 (lv_at hl 4 rfl) ?_
    refine lv_sipush (v := 1024) hx hb dX0_pages_8 (by decide) ?_
    refine lv_icmp_gt (tgt := 22) hx hb dX0_pages_11 (by decide) (fun c_11 => ?_) (fun c_11 => ?_)
    · skip
      refine lv_iconst (v := -1) hx hb dX0_pages_22 (by decide) ?_
      exact W.iret (v := (-1)) hx hb hr (fun t ht hW => ⟨⟨_, ((-1), v_refusedAddress, v_refusedEntry), rfl, ⟨rfl, by first | (rw [fx_pages, if_neg c_3, if_pos c_11]; done) | (simp only [fx_pages, if_neg c_3, if_pos c_11]; done) | (rw [fx_pages, if_neg c_3, if_pos c_11] <;> rfl)⟩, by rw [ht]; exact hP, va_K.moved hW.alike hK, hD⟩, hS.F ht⟩) hS.2.2 dX0_pages_23
    · skip
      refine lv_iload_n hx hb dX0_pages_14 rfl (lv_at hl 1 rfl) ?_
      refine lv_iload_n hx hb dX0_pages_15 rfl (lv_at hl 2 rfl) ?_
      refine cs_i (va_runS (As := [.int a0, .int a1]) (rest := []) ⟨hx, hb, hml, hown, hts⟩ (ctx_isKnown l s.heap.size a0 a1) (va_cwS 2 hts gX0_pages_X0_isKnown rfl rfl rfl (by decide +kernel) ⟨Nat.le_of_ble_eq_true rfl, Nat.le_of_ble_eq_true rfl⟩) ⟨fun a U g mk q => q, fun U hU hW => ⟨rfl, congrArg Array.size hU⟩⟩ rfl rfl hl.1 rfl (lv_room (Nat.le_of_ble_eq_true rfl)) dX0_pages_16 ⟨Nat.zero_le _, Nat.zero_le _⟩) hA hP hS (fun H locs hP hS => ?_)
      refine lv_if_ne (tgt := 24) hx hb dX0_pages_19 (by decide) (fun c_19 => ?_) (fun c_19 => ?_)
      · skip
        refine lv_iload_n hx hb dX0_pages_24 rfl (lv_at hl 3 rfl) ?_
        refine lv_i2l (v := a2.toInt64) hx hb dX0_pages_25 rfl ?_
        refine lv_ldc2 hx hb hown (hts (.constantLong RX0 52 4294967295) (by decide +kernel)) dX0_pages_26 ?_
        refine lv_land hx hb dX0_pages_29 ?_
        refine lv_topl (fun z_1 ez_1 => ?_)
        refine lv_lstore (lv' := [(5, .long z_1), (0, .ref h0), (1, .int a0), (2, .int a1), (3, .int a2), (4, .int a3)]) hx hb dX0_pages_30 hl (by decide) rfl (fun ls hl => ?_)
        refine lv_iconst (v := 0) hx hb dX0_pages_32 (by decide) ?_
        refine lv_istore (lv' := [(7, .int 0), (5, .long z_1), (0, .ref h0), (1, .int a0), (2, .int a1), (3, .int a2), (4, .int a3)]) hx hb dX0_pages_33 hl (by decide) rfl (fun ls hl => ?_)
        refine lv_iconst (v := 0) hx hb dX0_pages_35 (by decide) ?_
        refine lv_istore (lv' := [(8, .int 0), (7, .int 0), (5, .long z_1), (0, .ref h0), (1, .int a0), (2, .int a1), (3, .int a2), (4, .int a3)]) hx hb dX0_pages_36 hl (by decide) rfl (fun ls hl => ?_)
        obtain ⟨N, hN1, hN2, eN⟩ := pg_N c_3 c_11
        refine lw_loop (σ := (Int32 × Int32 × Int64 × Int32) × Heap × List Loc × Array Slot) (fun x => x.2.1) (fun x => x.2.2.1) (fun x => x.2.2.2) (fun n x => ∃ i : Nat, i + n = N ∧ x.1.1 = nI i ∧ fx_pl v_atp v_vsAtp v_hgatp v_rights m_words a0 a1 z_1 n x.1.1 x.1.2.1 x.1.2.2.1 x.1.2.2.2 = fx_pl v_atp v_vsAtp v_hgatp v_rights m_words a0 a1 z_1 N 0 0 v_refusedAddress v_refusedEntry ∧ va_P (dC, dI) vwCl (wx h0 q_words k_words v_atp v_vsAtp v_hgatp v_rights v_latestPlace v_latestSecond v_latestEntry x.1.2.2.1 x.1.2.2.2 m_words) x.2.1 ∧ va_D A (wx h0 q_words k_words v_atp v_vsAtp v_hgatp v_rights v_latestPlace v_latestSecond v_latestEntry x.1.2.2.1 x.1.2.2.2 m_words) ∧ va_S A s.heap x.2.1 x.2.2.1 ∧ lv_has x.2.2.2 11 [(8, .int x.1.1), (7, .int x.1.2.1), (5, .long z_1), (0, .ref h0), (1, .int a0), (2, .int a1), (3, .int a2), (4, .int a3)]) ?_ N ((0, 0, v_refusedAddress, v_refusedEntry), H, locs, ls) ⟨0, Nat.zero_add N, nI_0.symm, rfl, hP, hD, hS, hl⟩
        intro n x hI ih
        obtain ⟨⟨xi, xc, xa, xe⟩, H, locs, ls⟩ := x
        obtain ⟨i, hin, exi, hfp, hP, hD, hS, hl⟩ := hI
        have exi : xi = nI i := exi
        have hfp : fx_pl v_atp v_vsAtp v_hgatp v_rights m_words a0 a1 z_1 n xi xc xa xe = fx_pl v_atp v_vsAtp v_hgatp v_rights m_words a0 a1 z_1 N 0 0 v_refusedAddress v_refusedEntry := hfp
        have hP : va_P (dC, dI) vwCl (wx h0 q_words k_words v_atp v_vsAtp v_hgatp v_rights v_latestPlace v_latestSecond v_latestEntry xa xe m_words) H := hP
        have hD : va_D A (wx h0 q_words k_words v_atp v_vsAtp v_hgatp v_rights v_latestPlace v_latestSecond v_latestEntry xa xe m_words) := hD
        have hS : va_S A s.heap H locs := hS
        have hl : lv_has ls 11 [(8, .int xi), (7, .int xc), (5, .long z_1), (0, .ref h0), (1, .int a0), (2, .int a1), (3, .int a2), (4, .int a3)] := hl
        refine lv_iload hx hb dX0_pages_38 (lv_at hl 0 rfl) ?_
        refine lv_iload hx hb dX0_pages_40 (lv_at hl 7 rfl) ?_
        refine lv_icmp_ge (tgt := 88) hx hb dX0_pages_42 (by decide) (fun c_42 => ?_) (fun c_42 => ?_)
        · have hi : i = N := by
            have := (nI_leI (a := N) (b := i) (by omega) (by omega)).mp (by rw [← eN, ← exi]; exact c_42)
            omega
          have hn : n = 0 := by omega
          subst hn
          refine lv_iload hx hb dX0_pages_88 (lv_at hl 1 rfl) ?_
          exact W.iret (v := xc) hx hb hr (fun t ht hW => ⟨⟨_, (xc, xa, xe), rfl, ⟨rfl, by rw [fx_pages, if_neg c_3, if_neg c_11, if_neg c_19, show a3.toNatClampNeg = N from by rw [eN]; exact nI_clamp (by omega), ← ez_1]; exact hfp⟩, by rw [ht]; exact hP, va_K.moved hW.alike hK, hD⟩, hS.F ht⟩) hS.2.2 dX0_pages_90
        · have hlt : i < N := by
            rcases Nat.lt_or_ge i N with q | q
            · exact q
            · exact absurd (by rw [eN, exi]; exact nI_le q (by omega)) c_42
          obtain ⟨n', rfl⟩ : ∃ n', n = n' + 1 := ⟨n - 1, by omega⟩
          refine lv_lload hx hb dX0_pages_45 (lv_at hl 2 rfl) ?_
          refine lv_iload hx hb dX0_pages_47 (lv_at hl 0 rfl) ?_
          refine lv_i2l (v := xi.toInt64) hx hb dX0_pages_49 rfl ?_
          refine lv_ldc2 hx hb hown (hts (.constantLong RX0 69 4096) (by decide +kernel)) dX0_pages_50 ?_
          refine lv_lmul hx hb dX0_pages_53 ?_
          refine lv_ladd hx hb dX0_pages_54 ?_
          refine lv_topl (fun z_2 ez_2 => ?_)
          refine lv_lstore (lv' := [(9, .long z_2), (8, .int xi), (7, .int xc), (5, .long z_1), (0, .ref h0), (1, .int a0), (2, .int a1), (3, .int a2), (4, .int a3)]) hx hb dX0_pages_55 hl (by decide) rfl (fun ls hl => ?_)
          refine lv_lload hx hb dX0_pages_57 (lv_at hl 0 rfl) ?_
          refine lv_ldc2 hx hb hown (hts (.constantLong RX0 52 4294967295) (by decide +kernel)) dX0_pages_59 ?_
          refine lq_gt (tgt := 82) hx hb dX0_pages_62 dX0_pages_63 (by decide) (fun c_63 => ?_) (fun c_63 => ?_)
          · skip
            obtain ⟨z_3, ez_3⟩ : ∃ y : Int32, y = xi + 1 := ⟨_, rfl⟩
            refine lv_iinc (v := z_3) (lv' := [(8, .int z_3), (9, .long z_2), (7, .int xc), (5, .long z_1), (0, .ref h0), (1, .int a0), (2, .int a1), (3, .int a2), (4, .int a3)]) hx hb dX0_pages_82 hl (k := 1) rfl (by rw [ez_3]; rfl) (by decide) rfl (fun ls hl => ?_)
            refine lv_goto (tgt := 38) hx hb dX0_pages_85 (by decide) ?_
            exact ih n' ((z_3, xc, xa, xe), H, locs, ls) (Nat.lt_succ_self n') ⟨i + 1, by omega, by rw [ez_3, exi]; exact nI_1 i, by rw [← hfp]; subst ez_3; subst ez_2; rw [fx_pl_s, if_pos c_63] <;> rfl, hP, hD, hS, lv_sub hl [0, 2, 3, 4, 5, 6, 7, 8] rfl⟩
          · skip
            refine lv_aload_n hx hb dX0_pages_66 rfl (lv_at hl 4 rfl) ?_
            refine lv_iload_n hx hb dX0_pages_67 rfl (lv_at hl 5 rfl) ?_
            refine lv_iload_n hx hb dX0_pages_68 rfl (lv_at hl 6 rfl) ?_
            refine lv_lload hx hb dX0_pages_69 (lv_at hl 0 rfl) ?_
            refine cw_l (va_runV (As := [.int a0, .int a1, .long z_2]) (rest := []) ⟨hx, hb, hml, hown, hts⟩ (ctx_lead l dC dI h0 q_words k_words H.size v_atp v_vsAtp v_hgatp v_rights v_latestPlace v_latestSecond v_latestEntry xa xe m_words a0 a1 z_2) (cwV 3 hts gX0_pages_X0_lead rfl rfl rfl (by decide +kernel) ⟨Nat.le_of_ble_eq_true rfl, Nat.le_of_ble_eq_true rfl⟩) ⟨fun a U g mk q => ⟨q.1, q.2.1, q.2.2.1, va_K.moved (u := U) (U := U.calling g mk a) (Vm.Alike.refl U.vm) q.2.2.2.1, q.2.2.2.2⟩, va_recv hK hP (ci := 0) (q0 := 0) rfl rfl, fun U hU hW => ⟨rfl, by rw [hU], by rw [hU]; exact hP, va_K.moved hW.alike hK, hD.weaken (fun _ _ _ _ => trivial)⟩⟩ rfl rfl hl.1 rfl (lv_room (Nat.le_of_ble_eq_true rfl)) dX0_pages_71 ⟨Nat.zero_le _, Nat.zero_le _⟩) hA hD hP hS (fun o_4 H locs eo_4 hP hD hS => ?_)
            have hP : va_P (dC, dI) vwCl (wx h0 q_words k_words v_atp v_vsAtp v_hgatp v_rights v_latestPlace v_latestSecond v_latestEntry o_4.2.1 o_4.2.2 m_words) H := hP
            have hD : va_D A (wx h0 q_words k_words v_atp v_vsAtp v_hgatp v_rights v_latestPlace v_latestSecond v_latestEntry o_4.2.1 o_4.2.2 m_words) := hD
            refine lv_lconst (v := 0) hx hb dX0_pages_74 (by decide) ?_
            refine lq_lt (tgt := 82) hx hb dX0_pages_75 dX0_pages_76 (by decide) (fun c_76 => ?_) (fun c_76 => ?_)
            · skip
              obtain ⟨z_5, ez_5⟩ : ∃ y : Int32, y = xi + 1 := ⟨_, rfl⟩
              refine lv_iinc (v := z_5) (lv' := [(8, .int z_5), (9, .long z_2), (7, .int xc), (5, .long z_1), (0, .ref h0), (1, .int a0), (2, .int a1), (3, .int a2), (4, .int a3)]) hx hb dX0_pages_82 hl (k := 1) rfl (by rw [ez_5]; rfl) (by decide) rfl (fun ls hl => ?_)
              refine lv_goto (tgt := 38) hx hb dX0_pages_85 (by decide) ?_
              exact ih n' ((z_5, xc, o_4.2.1, o_4.2.2), H, locs, ls) (Nat.lt_succ_self n') ⟨i + 1, by omega, by rw [ez_5, exi]; exact nI_1 i, by rw [← hfp]; subst ez_5; subst eo_4; subst ez_2; rw [fx_pl_s, if_neg c_63, if_pos c_76] <;> rfl, hP, hD, hS, lv_sub hl [0, 2, 3, 4, 5, 6, 7, 8] rfl⟩
            · skip
              obtain ⟨z_6, ez_6⟩ : ∃ y : Int32, y = xc + 1 := ⟨_, rfl⟩
              refine lv_iinc (v := z_6) (lv' := [(7, .int z_6), (9, .long z_2), (8, .int xi), (5, .long z_1), (0, .ref h0), (1, .int a0), (2, .int a1), (3, .int a2), (4, .int a3)]) hx hb dX0_pages_79 hl (k := 2) rfl (by rw [ez_6]; rfl) (by decide) rfl (fun ls hl => ?_)
              obtain ⟨z_7, ez_7⟩ : ∃ y : Int32, y = xi + 1 := ⟨_, rfl⟩
              refine lv_iinc (v := z_7) (lv' := [(8, .int z_7), (7, .int z_6), (9, .long z_2), (5, .long z_1), (0, .ref h0), (1, .int a0), (2, .int a1), (3, .int a2), (4, .int a3)]) hx hb dX0_pages_82 hl (k := 2) rfl (by rw [ez_7]; rfl) (by decide) rfl (fun ls hl => ?_)
              refine lv_goto (tgt := 38) hx hb dX0_pages_85 (by decide) ?_
              exact ih n' ((z_7, z_6, o_4.2.1, o_4.2.2), H, locs, ls) (Nat.lt_succ_self n') ⟨i + 1, by omega, by rw [ez_7, exi]; exact nI_1 i, by rw [← hfp]; subst ez_7; subst ez_6; subst eo_4; subst ez_2; rw [fx_pl_s, if_neg c_63, if_neg c_76] <;> rfl, hP, hD, hS, lv_sub hl [0, 1, 3, 4, 5, 6, 7, 8] rfl⟩
      · skip
        refine lv_iconst (v := -1) hx hb dX0_pages_22 (by decide) ?_
        exact W.iret (v := (-1)) hx hb hr (fun t ht hW => ⟨⟨_, ((-1), v_refusedAddress, v_refusedEntry), rfl, ⟨rfl, by first | (rw [fx_pages, if_neg c_3, if_neg c_11, if_pos c_19]; done) | (simp only [fx_pages, if_neg c_3, if_neg c_11, if_pos c_19]; done) | (rw [fx_pages, if_neg c_3, if_neg c_11, if_pos c_19] <;> rfl)⟩, by rw [ht]; exact hP, va_K.moved hW.alike hK, hD⟩, hS.F ht⟩) hS.2.2 dX0_pages_23
