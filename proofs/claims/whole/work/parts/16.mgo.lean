/-! StageWalkerModel.go, translate -/
def fm_go (v_atp : Int32) (v_vsAtp : Int32) (v_hgatp : Int32) (v_rights : Int32) (m_memory : Nat → Int32) (a0 : Int32) (a1 : Int32) (a2 : Int32) : Int32 × Int64 × Int64 × Int32 := if ((if a0 < 2 then 0 else 1 : Int32)) = 0 then if ((fm_first0 0 0 0 m_memory v_atp (a2.toInt64 &&& 4294967295) a1 ((if (a0 - a0 / 2 * 2) = 0 then 1 else 0 : Int32)) ((fm_has v_rights 0)) ((fm_has v_rights 1))).2.1) = 0 then ((fm_inMemory ((fm_first0 0 0 0 m_memory v_atp (a2.toInt64 &&& 4294967295) a1 ((if (a0 - a0 / 2 * 2) = 0 then 1 else 0 : Int32)) ((fm_has v_rights 0)) ((fm_has v_rights 1))).2.1) a1 ((fm_first0 0 0 0 m_memory v_atp (a2.toInt64 &&& 4294967295) a1 ((if (a0 - a0 / 2 * 2) = 0 then 1 else 0 : Int32)) ((fm_has v_rights 0)) ((fm_has v_rights 1))).1)).2, (if ((fm_inMemory ((fm_first0 0 0 0 m_memory v_atp (a2.toInt64 &&& 4294967295) a1 ((if (a0 - a0 / 2 * 2) = 0 then 1 else 0 : Int32)) ((fm_has v_rights 0)) ((fm_has v_rights 1))).2.1) a1 ((fm_first0 0 0 0 m_memory v_atp (a2.toInt64 &&& 4294967295) a1 ((if (a0 - a0 / 2 * 2) = 0 then 1 else 0 : Int32)) ((fm_has v_rights 0)) ((fm_has v_rights 1))).1)).2) = 0 then (fm_inMemory ((fm_first0 0 0 0 m_memory v_atp (a2.toInt64 &&& 4294967295) a1 ((if (a0 - a0 / 2 * 2) = 0 then 1 else 0 : Int32)) ((fm_has v_rights 0)) ((fm_has v_rights 1))).2.1) a1 ((fm_first0 0 0 0 m_memory v_atp (a2.toInt64 &&& 4294967295) a1 ((if (a0 - a0 / 2 * 2) = 0 then 1 else 0 : Int32)) ((fm_has v_rights 0)) ((fm_has v_rights 1))).1)).1 else 0 : Int64), (fm_first0 0 0 0 m_memory v_atp (a2.toInt64 &&& 4294967295) a1 ((if (a0 - a0 / 2 * 2) = 0 then 1 else 0 : Int32)) ((fm_has v_rights 0)) ((fm_has v_rights 1))).2.2.1, (fm_first0 0 0 0 m_memory v_atp (a2.toInt64 &&& 4294967295) a1 ((if (a0 - a0 / 2 * 2) = 0 then 1 else 0 : Int32)) ((fm_has v_rights 0)) ((fm_has v_rights 1))).2.2.2) else ((fm_first0 0 0 0 m_memory v_atp (a2.toInt64 &&& 4294967295) a1 ((if (a0 - a0 / 2 * 2) = 0 then 1 else 0 : Int32)) ((fm_has v_rights 0)) ((fm_has v_rights 1))).2.1, 0, (fm_first0 0 0 0 m_memory v_atp (a2.toInt64 &&& 4294967295) a1 ((if (a0 - a0 / 2 * 2) = 0 then 1 else 0 : Int32)) ((fm_has v_rights 0)) ((fm_has v_rights 1))).2.2.1, (fm_first0 0 0 0 m_memory v_atp (a2.toInt64 &&& 4294967295) a1 ((if (a0 - a0 / 2 * 2) = 0 then 1 else 0 : Int32)) ((fm_has v_rights 0)) ((fm_has v_rights 1))).2.2.2) else if ((fm_first1 v_hgatp v_rights 0 0 0 m_memory v_vsAtp (a2.toInt64 &&& 4294967295) a1 ((if (a0 - a0 / 2 * 2) = 0 then 1 else 0 : Int32)) ((fm_has v_rights 2)) ((if ((fm_has v_rights 3)) = 0 then if ((fm_has v_rights 1)) = 0 then 0 else 1 else 1 : Int32))).2.1) = 0 then ((fm_second_w v_hgatp v_rights ((fm_first1 v_hgatp v_rights 0 0 0 m_memory v_vsAtp (a2.toInt64 &&& 4294967295) a1 ((if (a0 - a0 / 2 * 2) = 0 then 1 else 0 : Int32)) ((fm_has v_rights 2)) ((if ((fm_has v_rights 3)) = 0 then if ((fm_has v_rights 1)) = 0 then 0 else 1 else 1 : Int32))).2.1) ((fm_first1 v_hgatp v_rights 0 0 0 m_memory v_vsAtp (a2.toInt64 &&& 4294967295) a1 ((if (a0 - a0 / 2 * 2) = 0 then 1 else 0 : Int32)) ((fm_has v_rights 2)) ((if ((fm_has v_rights 3)) = 0 then if ((fm_has v_rights 1)) = 0 then 0 else 1 else 1 : Int32))).2.2.1) ((fm_first1 v_hgatp v_rights 0 0 0 m_memory v_vsAtp (a2.toInt64 &&& 4294967295) a1 ((if (a0 - a0 / 2 * 2) = 0 then 1 else 0 : Int32)) ((fm_has v_rights 2)) ((if ((fm_has v_rights 3)) = 0 then if ((fm_has v_rights 1)) = 0 then 0 else 1 else 1 : Int32))).2.2.2) m_memory ((fm_first1 v_hgatp v_rights 0 0 0 m_memory v_vsAtp (a2.toInt64 &&& 4294967295) a1 ((if (a0 - a0 / 2 * 2) = 0 then 1 else 0 : Int32)) ((fm_has v_rights 2)) ((if ((fm_has v_rights 3)) = 0 then if ((fm_has v_rights 1)) = 0 then 0 else 1 else 1 : Int32))).1) a1 a1 0).2.1, (if ((fm_second_w v_hgatp v_rights ((fm_first1 v_hgatp v_rights 0 0 0 m_memory v_vsAtp (a2.toInt64 &&& 4294967295) a1 ((if (a0 - a0 / 2 * 2) = 0 then 1 else 0 : Int32)) ((fm_has v_rights 2)) ((if ((fm_has v_rights 3)) = 0 then if ((fm_has v_rights 1)) = 0 then 0 else 1 else 1 : Int32))).2.1) ((fm_first1 v_hgatp v_rights 0 0 0 m_memory v_vsAtp (a2.toInt64 &&& 4294967295) a1 ((if (a0 - a0 / 2 * 2) = 0 then 1 else 0 : Int32)) ((fm_has v_rights 2)) ((if ((fm_has v_rights 3)) = 0 then if ((fm_has v_rights 1)) = 0 then 0 else 1 else 1 : Int32))).2.2.1) ((fm_first1 v_hgatp v_rights 0 0 0 m_memory v_vsAtp (a2.toInt64 &&& 4294967295) a1 ((if (a0 - a0 / 2 * 2) = 0 then 1 else 0 : Int32)) ((fm_has v_rights 2)) ((if ((fm_has v_rights 3)) = 0 then if ((fm_has v_rights 1)) = 0 then 0 else 1 else 1 : Int32))).2.2.2) m_memory ((fm_first1 v_hgatp v_rights 0 0 0 m_memory v_vsAtp (a2.toInt64 &&& 4294967295) a1 ((if (a0 - a0 / 2 * 2) = 0 then 1 else 0 : Int32)) ((fm_has v_rights 2)) ((if ((fm_has v_rights 3)) = 0 then if ((fm_has v_rights 1)) = 0 then 0 else 1 else 1 : Int32))).1) a1 a1 0).2.1) = 0 then (fm_second_w v_hgatp v_rights ((fm_first1 v_hgatp v_rights 0 0 0 m_memory v_vsAtp (a2.toInt64 &&& 4294967295) a1 ((if (a0 - a0 / 2 * 2) = 0 then 1 else 0 : Int32)) ((fm_has v_rights 2)) ((if ((fm_has v_rights 3)) = 0 then if ((fm_has v_rights 1)) = 0 then 0 else 1 else 1 : Int32))).2.1) ((fm_first1 v_hgatp v_rights 0 0 0 m_memory v_vsAtp (a2.toInt64 &&& 4294967295) a1 ((if (a0 - a0 / 2 * 2) = 0 then 1 else 0 : Int32)) ((fm_has v_rights 2)) ((if ((fm_has v_rights 3)) = 0 then if ((fm_has v_rights 1)) = 0 then 0 else 1 else 1 : Int32))).2.2.1) ((fm_first1 v_hgatp v_rights 0 0 0 m_memory v_vsAtp (a2.toInt64 &&& 4294967295) a1 ((if (a0 - a0 / 2 * 2) = 0 then 1 else 0 : Int32)) ((fm_has v_rights 2)) ((if ((fm_has v_rights 3)) = 0 then if ((fm_has v_rights 1)) = 0 then 0 else 1 else 1 : Int32))).2.2.2) m_memory ((fm_first1 v_hgatp v_rights 0 0 0 m_memory v_vsAtp (a2.toInt64 &&& 4294967295) a1 ((if (a0 - a0 / 2 * 2) = 0 then 1 else 0 : Int32)) ((fm_has v_rights 2)) ((if ((fm_has v_rights 3)) = 0 then if ((fm_has v_rights 1)) = 0 then 0 else 1 else 1 : Int32))).1) a1 a1 0).1 else 0 : Int64), (fm_second_w v_hgatp v_rights ((fm_first1 v_hgatp v_rights 0 0 0 m_memory v_vsAtp (a2.toInt64 &&& 4294967295) a1 ((if (a0 - a0 / 2 * 2) = 0 then 1 else 0 : Int32)) ((fm_has v_rights 2)) ((if ((fm_has v_rights 3)) = 0 then if ((fm_has v_rights 1)) = 0 then 0 else 1 else 1 : Int32))).2.1) ((fm_first1 v_hgatp v_rights 0 0 0 m_memory v_vsAtp (a2.toInt64 &&& 4294967295) a1 ((if (a0 - a0 / 2 * 2) = 0 then 1 else 0 : Int32)) ((fm_has v_rights 2)) ((if ((fm_has v_rights 3)) = 0 then if ((fm_has v_rights 1)) = 0 then 0 else 1 else 1 : Int32))).2.2.1) ((fm_first1 v_hgatp v_rights 0 0 0 m_memory v_vsAtp (a2.toInt64 &&& 4294967295) a1 ((if (a0 - a0 / 2 * 2) = 0 then 1 else 0 : Int32)) ((fm_has v_rights 2)) ((if ((fm_has v_rights 3)) = 0 then if ((fm_has v_rights 1)) = 0 then 0 else 1 else 1 : Int32))).2.2.2) m_memory ((fm_first1 v_hgatp v_rights 0 0 0 m_memory v_vsAtp (a2.toInt64 &&& 4294967295) a1 ((if (a0 - a0 / 2 * 2) = 0 then 1 else 0 : Int32)) ((fm_has v_rights 2)) ((if ((fm_has v_rights 3)) = 0 then if ((fm_has v_rights 1)) = 0 then 0 else 1 else 1 : Int32))).1) a1 a1 0).2.2.1, (fm_second_w v_hgatp v_rights ((fm_first1 v_hgatp v_rights 0 0 0 m_memory v_vsAtp (a2.toInt64 &&& 4294967295) a1 ((if (a0 - a0 / 2 * 2) = 0 then 1 else 0 : Int32)) ((fm_has v_rights 2)) ((if ((fm_has v_rights 3)) = 0 then if ((fm_has v_rights 1)) = 0 then 0 else 1 else 1 : Int32))).2.1) ((fm_first1 v_hgatp v_rights 0 0 0 m_memory v_vsAtp (a2.toInt64 &&& 4294967295) a1 ((if (a0 - a0 / 2 * 2) = 0 then 1 else 0 : Int32)) ((fm_has v_rights 2)) ((if ((fm_has v_rights 3)) = 0 then if ((fm_has v_rights 1)) = 0 then 0 else 1 else 1 : Int32))).2.2.1) ((fm_first1 v_hgatp v_rights 0 0 0 m_memory v_vsAtp (a2.toInt64 &&& 4294967295) a1 ((if (a0 - a0 / 2 * 2) = 0 then 1 else 0 : Int32)) ((fm_has v_rights 2)) ((if ((fm_has v_rights 3)) = 0 then if ((fm_has v_rights 1)) = 0 then 0 else 1 else 1 : Int32))).2.2.2) m_memory ((fm_first1 v_hgatp v_rights 0 0 0 m_memory v_vsAtp (a2.toInt64 &&& 4294967295) a1 ((if (a0 - a0 / 2 * 2) = 0 then 1 else 0 : Int32)) ((fm_has v_rights 2)) ((if ((fm_has v_rights 3)) = 0 then if ((fm_has v_rights 1)) = 0 then 0 else 1 else 1 : Int32))).1) a1 a1 0).2.2.2) else ((fm_first1 v_hgatp v_rights 0 0 0 m_memory v_vsAtp (a2.toInt64 &&& 4294967295) a1 ((if (a0 - a0 / 2 * 2) = 0 then 1 else 0 : Int32)) ((fm_has v_rights 2)) ((if ((fm_has v_rights 3)) = 0 then if ((fm_has v_rights 1)) = 0 then 0 else 1 else 1 : Int32))).2.1, 0, (fm_first1 v_hgatp v_rights 0 0 0 m_memory v_vsAtp (a2.toInt64 &&& 4294967295) a1 ((if (a0 - a0 / 2 * 2) = 0 then 1 else 0 : Int32)) ((fm_has v_rights 2)) ((if ((fm_has v_rights 3)) = 0 then if ((fm_has v_rights 1)) = 0 then 0 else 1 else 1 : Int32))).2.2.1, (fm_first1 v_hgatp v_rights 0 0 0 m_memory v_vsAtp (a2.toInt64 &&& 4294967295) a1 ((if (a0 - a0 / 2 * 2) = 0 then 1 else 0 : Int32)) ((fm_has v_rights 2)) ((if ((fm_has v_rights 3)) = 0 then if ((fm_has v_rights 1)) = 0 then 0 else 1 else 1 : Int32))).2.2.2)
set_option maxHeartbeats 4000000 in
set_option maxRecDepth 100000 in
theorem ctm_go (l : Launch) (dC : Nat → ClassId) (dI : Nat → Nat → Nat) (h0 : Nat) (q_memory : Nat) (k_memory : ClassId) (sz : Nat) (v_atp : Int32) (v_vsAtp : Int32) (v_hgatp : Int32) (v_rights : Int32) (v_code : Int32) (v_found : Int64) (v_wanted : Int64) (v_ofEntry : Int32) (m_memory : Nat → Int32) (a0 : Int32) (a1 : Int32) (a2 : Int32) : MWv l yX1_go wsX1_go ({ frames := 4, cells := 0, slots := 0, locals := 116 }) (dC, dI) vwCl [(k_memory, .int)] [.ref h0, .int a0, .int a1, .int a2] sz (wm h0 q_memory k_memory v_atp v_vsAtp v_hgatp v_rights v_code v_found v_wanted v_ofEntry m_memory) (fun u : Int32 × Int64 × Int64 × Int32 => (wm h0 q_memory k_memory v_atp v_vsAtp v_hgatp v_rights u.1 u.2.1 u.2.2.1 u.2.2.2 m_memory)) (fm_go v_atp v_vsAtp v_hgatp v_rights m_memory a0 a1 a2) := by
  refine Met.ofW (cc := cX1_go) (maxL := 10) (ret := none) (by decide) rfl ?_
  intro p e s m args below meth c s₁ B hml hv
  obtain ⟨rfl, hsz, hP, hK, hD0⟩ := hv
  have hx := B.exec
  have hb := B.bytes
  have hr := B.returns
  have hts := atoms_spec (ws := wsX1_go) B.pre
  have hown : s.vm.findClass RX1 = some m.cls := findClass_of_methodNamed B.named
  have hlocks := B.notSynchronized
  subst hsz
  have hwX : ∀ w ∈ u_ws RX1 TX1 9, w ∈ wsX1_go := by decide +kernel
  have hD := hD0.self (sz := s.heap.size)
  generalize hAe : va_A (wm h0 q_memory k_memory v_atp v_vsAtp v_hgatp v_rights v_code v_found v_wanted v_ofEntry m_memory) s.heap.size = A at hD ⊢
  have hA : ∀ q : Nat, s.heap.size ≤ q → A q := fun q h => by rw [← hAe]; exact Or.inr h
  have hS : va_S A s.heap s.heap [] := va_S.rf
  have hP : va_P (dC, dI) vwCl (wm h0 q_memory k_memory v_atp v_vsAtp v_hgatp v_rights v_code v_found v_wanted v_ofEntry m_memory) s.heap := hP
  have hl := lv_entry ([.ref h0, .int a0, .int a1, .int a2]) (n := 10) (Nat.le_of_ble_eq_true rfl)
  rw [lg_entry_eq]
  generalize (lg_sl ([.ref h0, .int a0, .int a1, .int a2]) ++ List.replicate (10 - (lg_sl ([.ref h0, .int a0, .int a1, .int a2])).length) Slot.unset).toArray = ls at hl ⊢
  have hl : lv_has ls 10 [(0, .ref h0), (1, .int a0), (2, .int a1), (3, .int a2)] := hl
  refine lv_iload_n hx hb dX1_go_0 rfl (lv_at hl 3 rfl) ?_
  refine lv_i2l (v := a2.toInt64) hx hb dX1_go_1 rfl ?_
  refine lv_ldc2 hx hb hown (hts (.constantLong RX1 90 4294967295) (by decide +kernel)) dX1_go_2 ?_
  refine lv_land hx hb dX1_go_5 ?_
  refine lv_topl (fun z_1 ez_1 => ?_)
  refine lv_lstore (lv' := [(4, .long z_1), (0, .ref h0), (1, .int a0), (2, .int a1), (3, .int a2)]) hx hb dX1_go_6 hl (by decide) rfl (fun ls hl => ?_)
  refine lv_aload_n hx hb dX1_go_8 rfl (lv_at hl 1 rfl) ?_
  refine lv_iconst (v := 0) hx hb dX1_go_9 (by decide) ?_
  refine va_put (D := (dC, dI)) (ci := 1) (v := .int 0) (ty := .int) (C := RX1) (T := TX1) (N := 9) hx hb hts hwX tyX1 tyX1_ok nmX1 hown hK hP hD hS 0 rfl rfl 5 (by decide) (hts (.fieldLink RX1 14 "StageWalkerModel" "code" "I") (by decide +kernel)) (fun _ h9 => h9) rfl (by decide +kernel) rfl rfl (Nat.le_of_ble_eq_true rfl) dX1_go_10 (fun H locs hP hD hS => ?_)
  have hP : va_P (dC, dI) vwCl (wm h0 q_memory k_memory v_atp v_vsAtp v_hgatp v_rights 0 v_found v_wanted v_ofEntry m_memory) H := hP
  have hD : va_D A (wm h0 q_memory k_memory v_atp v_vsAtp v_hgatp v_rights 0 v_found v_wanted v_ofEntry m_memory) := hD
  refine lv_aload_n hx hb dX1_go_13 rfl (lv_at hl 1 rfl) ?_
  refine lv_lconst (v := 0) hx hb dX1_go_14 (by decide) ?_
  refine va_put (D := (dC, dI)) (ci := 1) (v := .long 0) (ty := .long) (C := RX1) (T := TX1) (N := 9) hx hb hts hwX tyX1 tyX1_ok nmX1 hown hK hP hD hS 0 rfl rfl 7 (by decide) (hts (.fieldLink RX1 73 "StageWalkerModel" "wanted" "J") (by decide +kernel)) (fun _ h9 => h9) rfl (by decide +kernel) rfl rfl (Nat.le_of_ble_eq_true rfl) dX1_go_15 (fun H locs hP hD hS => ?_)
  have hP : va_P (dC, dI) vwCl (wm h0 q_memory k_memory v_atp v_vsAtp v_hgatp v_rights 0 v_found 0 v_ofEntry m_memory) H := hP
  have hD : va_D A (wm h0 q_memory k_memory v_atp v_vsAtp v_hgatp v_rights 0 v_found 0 v_ofEntry m_memory) := hD
  refine lv_aload_n hx hb dX1_go_18 rfl (lv_at hl 1 rfl) ?_
  refine lv_iconst (v := 0) hx hb dX1_go_19 (by decide) ?_
  refine va_put (D := (dC, dI)) (ci := 1) (v := .int 0) (ty := .boolean) (C := RX1) (T := TX1) (N := 9) hx hb hts hwX tyX1 tyX1_ok nmX1 hown hK hP hD hS 0 rfl rfl 8 (by decide) (hts (.fieldLink RX1 77 "StageWalkerModel" "ofEntry" "Z") (by decide +kernel)) (fun _ h9 => h9) rfl (by decide +kernel) nb_0 (by decide) (Nat.le_of_ble_eq_true rfl) dX1_go_20 (fun H locs hP hD hS => ?_)
  have hP : va_P (dC, dI) vwCl (wm h0 q_memory k_memory v_atp v_vsAtp v_hgatp v_rights 0 v_found 0 0 m_memory) H := hP
  have hD : va_D A (wm h0 q_memory k_memory v_atp v_vsAtp v_hgatp v_rights 0 v_found 0 0 m_memory) := hD
  refine lv_iload_n hx hb dX1_go_23 rfl (lv_at hl 2 rfl) ?_
  refine lv_iconst (v := 2) hx hb dX1_go_24 (by decide) ?_
  refine lj_i (j := 33) (z0 := if a0 < 2 then 0 else 1) (rest := []) hP hS (fun H locs hP hS z_2 ez_2 => ?_) (fun J33_25 => ?_)
  · skip
    have oz_2 : z_2 = 0 ∨ z_2 = 1 := by rw [ez_2]; exact ite01 (Or.inl rfl) (Or.inr rfl)
    refine lv_istore (lv' := [(6, .int z_2), (4, .long z_1), (0, .ref h0), (1, .int a0), (2, .int a1), (3, .int a2)]) hx hb dX1_go_33 hl (by decide) rfl (fun ls hl => ?_)
    refine lv_iload_n hx hb dX1_go_35 rfl (lv_at hl 3 rfl) ?_
    refine lv_iconst (v := 2) hx hb dX1_go_36 (by decide) ?_
    refine lv_irem hx hb dX1_go_37 (by decide) ?_
    refine lj_i (j := 46) (z0 := if (a0 - a0 / 2 * 2) = 0 then 1 else 0) (rest := []) hP hS (fun H locs hP hS z_3 ez_3 => ?_) (fun J46_38 => ?_)
    · skip
      have oz_3 : z_3 = 0 ∨ z_3 = 1 := by rw [ez_3]; exact ite01 (Or.inr rfl) (Or.inl rfl)
      refine lv_istore (lv' := [(7, .int z_3), (6, .int z_2), (4, .long z_1), (0, .ref h0), (1, .int a0), (2, .int a1), (3, .int a2)]) hx hb dX1_go_46 hl (by decide) rfl (fun ls hl => ?_)
      refine lv_iload hx hb dX1_go_48 (lv_at hl 1 rfl) ?_
      refine lv_if_eq (tgt := 96) hx hb dX1_go_50 (by decide) (fun c_50 => ?_) (fun c_50 => ?_)
      · skip
        refine lv_aload_n hx hb dX1_go_96 rfl (lv_at hl 3 rfl) ?_
        refine lv_aload_n hx hb dX1_go_97 rfl (lv_at hl 3 rfl) ?_
        refine va_get (D := (dC, dI)) (ci := 1) (v := .int v_atp) (C := RX1) (T := TX1) (N := 9) hx hb hts hwX hown hK hP 0 rfl rfl 1 (by decide) (hts (.fieldLink RX1 18 "StageWalkerModel" "atp" "I") (by decide +kernel)) (fun _ h9 => h9) rfl dX1_go_98 ?_
        refine lv_lload hx hb dX1_go_101 (lv_at hl 2 rfl) ?_
        refine lv_iload_n hx hb dX1_go_103 rfl (lv_at hl 5 rfl) ?_
        refine lv_iload hx hb dX1_go_104 (lv_at hl 0 rfl) ?_
        refine lv_aload_n hx hb dX1_go_106 rfl (lv_at hl 3 rfl) ?_
        refine lv_iconst (v := 0) hx hb dX1_go_107 (by decide) ?_
        refine cr_i (va_runV (As := [.int 0]) (rest := [.int z_3, .int a1, .long z_1, .int v_atp, .ref h0]) ⟨hx, hb, hml, hown, hts⟩ (ctm_has l dC dI h0 q_memory k_memory H.size v_atp v_vsAtp v_hgatp v_rights 0 v_found 0 0 m_memory 0) (cwV 1 hts gX1_go_X1_has rfl rfl rfl (by decide +kernel) ⟨Nat.le_of_ble_eq_true rfl, Nat.le_of_ble_eq_true rfl⟩) ⟨fun a U g mk q => ⟨q.1, q.2.1, q.2.2.1, va_K.moved (u := U) (U := U.calling g mk a) (Vm.Alike.refl U.vm) q.2.2.2.1, q.2.2.2.2⟩, va_recv hK hP (ci := 1) (q0 := 0) rfl rfl, fun U hU hW => ⟨rfl, by rw [hU], by rw [hU]; exact hP, va_K.moved hW.alike hK, hD.weaken (fun _ _ _ _ => trivial)⟩⟩ rfl rfl hl.1 rfl (lv_room (Nat.le_of_ble_eq_true rfl)) dX1_go_108 ⟨Nat.zero_le _, Nat.zero_le _⟩) hA hD hP hS (fun H locs hP hS => ?_)
        refine lv_aload_n hx hb dX1_go_111 rfl (lv_at hl 3 rfl) ?_
        refine lv_iconst (v := 1) hx hb dX1_go_112 (by decide) ?_
        refine cr_i (va_runV (As := [.int 1]) (rest := [.int ((fm_has v_rights 0)), .int z_3, .int a1, .long z_1, .int v_atp, .ref h0]) ⟨hx, hb, hml, hown, hts⟩ (ctm_has l dC dI h0 q_memory k_memory H.size v_atp v_vsAtp v_hgatp v_rights 0 v_found 0 0 m_memory 1) (cwV 1 hts gX1_go_X1_has rfl rfl rfl (by decide +kernel) ⟨Nat.le_of_ble_eq_true rfl, Nat.le_of_ble_eq_true rfl⟩) ⟨fun a U g mk q => ⟨q.1, q.2.1, q.2.2.1, va_K.moved (u := U) (U := U.calling g mk a) (Vm.Alike.refl U.vm) q.2.2.2.1, q.2.2.2.2⟩, va_recv hK hP (ci := 1) (q0 := 0) rfl rfl, fun U hU hW => ⟨rfl, by rw [hU], by rw [hU]; exact hP, va_K.moved hW.alike hK, hD.weaken (fun _ _ _ _ => trivial)⟩⟩ rfl rfl hl.1 rfl (lv_room (Nat.le_of_ble_eq_true rfl)) dX1_go_113 ⟨Nat.zero_le _, Nat.zero_le _⟩) hA hD hP hS (fun H locs hP hS => ?_)
        refine lv_iconst (v := 0) hx hb dX1_go_116 (by decide) ?_
        refine cw_l (va_runV (As := [.int v_atp, .long z_1, .int a1, .int z_3, .int ((fm_has v_rights 0)), .int ((fm_has v_rights 1)), .int 0]) (rest := []) ⟨hx, hb, hml, hown, hts⟩ (ctm_first0 l dC dI h0 q_memory k_memory H.size v_atp v_vsAtp v_hgatp v_rights 0 v_found 0 0 m_memory v_atp z_1 a1 z_3 ((fm_has v_rights 0)) ((fm_has v_rights 1))) (cwV 7 hts gX1_go_X1_first rfl rfl rfl (by decide +kernel) ⟨Nat.le_of_ble_eq_true rfl, Nat.le_of_ble_eq_true rfl⟩) ⟨fun a U g mk q => ⟨q.1, q.2.1, q.2.2.1, va_K.moved (u := U) (U := U.calling g mk a) (Vm.Alike.refl U.vm) q.2.2.2.1, q.2.2.2.2⟩, va_recv hK hP (ci := 1) (q0 := 0) rfl rfl, fun U hU hW => ⟨rfl, by rw [hU], by rw [hU]; exact hP, va_K.moved hW.alike hK, hD.weaken (fun _ _ _ _ => trivial)⟩⟩ rfl rfl hl.1 rfl (lv_room (Nat.le_of_ble_eq_true rfl)) dX1_go_117 ⟨Nat.zero_le _, Nat.zero_le _⟩) hA hD hP hS (fun o_4 H locs eo_4 hP hD hS => ?_)
        have hP : va_P (dC, dI) vwCl (wm h0 q_memory k_memory v_atp v_vsAtp v_hgatp v_rights o_4.2.1 v_found o_4.2.2.1 o_4.2.2.2 m_memory) H := hP
        have hD : va_D A (wm h0 q_memory k_memory v_atp v_vsAtp v_hgatp v_rights o_4.2.1 v_found o_4.2.2.1 o_4.2.2.2 m_memory) := hD
        refine lv_topl (fun z_5 ez_5 => ?_)
        refine lv_lstore (lv' := [(8, .long z_5), (7, .int z_3), (6, .int z_2), (4, .long z_1), (0, .ref h0), (1, .int a0), (2, .int a1), (3, .int a2)]) hx hb dX1_go_120 hl (by decide) rfl (fun ls hl => ?_)
        refine lv_aload_n hx hb dX1_go_122 rfl (lv_at hl 4 rfl) ?_
        refine va_get (D := (dC, dI)) (ci := 1) (v := .int o_4.2.1) (C := RX1) (T := TX1) (N := 9) hx hb hts hwX hown hK hP 0 rfl rfl 5 (by decide) (hts (.fieldLink RX1 14 "StageWalkerModel" "code" "I") (by decide +kernel)) (fun _ h9 => h9) rfl dX1_go_123 ?_
        refine lv_if_ne (tgt := 155) hx hb dX1_go_126 (by decide) (fun c_126 => ?_) (fun c_126 => ?_)
        · skip
          refine lv_aload_n hx hb dX1_go_155 rfl (lv_at hl 4 rfl) ?_
          refine lv_aload_n hx hb dX1_go_156 rfl (lv_at hl 4 rfl) ?_
          refine va_get (D := (dC, dI)) (ci := 1) (v := .int o_4.2.1) (C := RX1) (T := TX1) (N := 9) hx hb hts hwX hown hK hP 0 rfl rfl 5 (by decide) (hts (.fieldLink RX1 14 "StageWalkerModel" "code" "I") (by decide +kernel)) (fun _ h9 => h9) rfl dX1_go_157 ?_
          refine lv_if_ne (tgt := 168) hx hb dX1_go_160 (by decide) (fun c_160 => ?_) (fun c_160 => ?_)
          · skip
            refine lv_lconst (v := 0) hx hb dX1_go_168 (by decide) ?_
            refine va_put (D := (dC, dI)) (ci := 1) (v := .long 0) (ty := .long) (C := RX1) (T := TX1) (N := 9) hx hb hts hwX tyX1 tyX1_ok nmX1 hown hK hP hD hS 0 rfl rfl 6 (by decide) (hts (.fieldLink RX1 96 "StageWalkerModel" "found" "J") (by decide +kernel)) (fun _ h9 => h9) rfl (by decide +kernel) rfl rfl (Nat.le_of_ble_eq_true rfl) dX1_go_169 (fun H locs hP hD hS => ?_)
            have hP : va_P (dC, dI) vwCl (wm h0 q_memory k_memory v_atp v_vsAtp v_hgatp v_rights o_4.2.1 0 o_4.2.2.1 o_4.2.2.2 m_memory) H := hP
            have hD : va_D A (wm h0 q_memory k_memory v_atp v_vsAtp v_hgatp v_rights o_4.2.1 0 o_4.2.2.1 o_4.2.2.2 m_memory) := hD
            exact W.vret hx hb hr (fun t ht hW => ⟨⟨(o_4.2.1, 0, o_4.2.2.1, o_4.2.2.2), rfl, by subst ez_5; subst eo_4; subst ez_3; subst ez_2; subst ez_1; first | (rw [fm_go, if_pos c_50, if_neg c_126]; done) | (simp only [fm_go, if_pos c_50, if_neg c_126]; done) | (rw [fm_go, if_pos c_50, if_neg c_126] <;> rfl), by rw [ht]; exact hP, va_K.moved hW.alike hK, hD⟩, hS.F ht⟩) hS.2.2 dX1_go_172
          · skip
            exact absurd c_160 c_126
        · skip
          refine lv_iload hx hb dX1_go_129 (lv_at hl 2 rfl) ?_
          refine lv_if_eq (tgt := 146) hx hb dX1_go_131 (by decide) (fun c_131 => ?_) (fun c_131 => ?_)
          · skip
            refine lv_aload_n hx hb dX1_go_146 rfl (lv_at hl 4 rfl) ?_
            refine lv_iload_n hx hb dX1_go_147 rfl (lv_at hl 6 rfl) ?_
            refine lv_lload hx hb dX1_go_148 (lv_at hl 0 rfl) ?_
            refine cw_l (va_runV (As := [.int a1, .long z_5]) (rest := []) ⟨hx, hb, hml, hown, hts⟩ (ctm_inMemory l dC dI h0 q_memory k_memory H.size v_atp v_vsAtp v_hgatp v_rights o_4.2.1 v_found o_4.2.2.1 o_4.2.2.2 m_memory a1 z_5) (cwV 2 hts gX1_go_X1_inMemory rfl rfl rfl (by decide +kernel) ⟨Nat.le_of_ble_eq_true rfl, Nat.le_of_ble_eq_true rfl⟩) ⟨fun a U g mk q => ⟨q.1, q.2.1, q.2.2.1, va_K.moved (u := U) (U := U.calling g mk a) (Vm.Alike.refl U.vm) q.2.2.2.1, q.2.2.2.2⟩, va_recv hK hP (ci := 1) (q0 := 0) rfl rfl, fun U hU hW => ⟨rfl, by rw [hU], by rw [hU]; exact hP, va_K.moved hW.alike hK, hD.weaken (fun _ _ _ _ => trivial)⟩⟩ rfl rfl hl.1 rfl (lv_room (Nat.le_of_ble_eq_true rfl)) dX1_go_150 ⟨Nat.zero_le _, Nat.zero_le _⟩) hA hD hP hS (fun o_6 H locs eo_6 hP hD hS => ?_)
            have hP : va_P (dC, dI) vwCl (wm h0 q_memory k_memory v_atp v_vsAtp v_hgatp v_rights o_6.2 v_found o_4.2.2.1 o_4.2.2.2 m_memory) H := hP
            have hD : va_D A (wm h0 q_memory k_memory v_atp v_vsAtp v_hgatp v_rights o_6.2 v_found o_4.2.2.1 o_4.2.2.2 m_memory) := hD
            refine lv_topl (fun z_7 ez_7 => ?_)
            refine lv_lstore (lv' := [(8, .long z_7), (7, .int z_3), (6, .int z_2), (4, .long z_1), (0, .ref h0), (1, .int a0), (2, .int a1), (3, .int a2)]) hx hb dX1_go_153 hl (by decide) rfl (fun ls hl => ?_)
            refine lv_aload_n hx hb dX1_go_155 rfl (lv_at hl 4 rfl) ?_
            refine lv_aload_n hx hb dX1_go_156 rfl (lv_at hl 4 rfl) ?_
            refine va_get (D := (dC, dI)) (ci := 1) (v := .int o_6.2) (C := RX1) (T := TX1) (N := 9) hx hb hts hwX hown hK hP 0 rfl rfl 5 (by decide) (hts (.fieldLink RX1 14 "StageWalkerModel" "code" "I") (by decide +kernel)) (fun _ h9 => h9) rfl dX1_go_157 ?_
            refine lj_l (j := 169) (z0 := if o_6.2 = 0 then z_7 else 0) (rest := [.ref h0]) hP hS (fun H locs hP hS z_8 ez_8 => ?_) (fun J169_160 => ?_)
            · skip
              refine va_put (D := (dC, dI)) (ci := 1) (v := .long z_8) (ty := .long) (C := RX1) (T := TX1) (N := 9) hx hb hts hwX tyX1 tyX1_ok nmX1 hown hK hP hD hS 0 rfl rfl 6 (by decide) (hts (.fieldLink RX1 96 "StageWalkerModel" "found" "J") (by decide +kernel)) (fun _ h9 => h9) rfl (by decide +kernel) rfl rfl (Nat.le_of_ble_eq_true rfl) dX1_go_169 (fun H locs hP hD hS => ?_)
              have hP : va_P (dC, dI) vwCl (wm h0 q_memory k_memory v_atp v_vsAtp v_hgatp v_rights o_6.2 z_8 o_4.2.2.1 o_4.2.2.2 m_memory) H := hP
              have hD : va_D A (wm h0 q_memory k_memory v_atp v_vsAtp v_hgatp v_rights o_6.2 z_8 o_4.2.2.1 o_4.2.2.2 m_memory) := hD
              exact W.vret hx hb hr (fun t ht hW => ⟨⟨(o_6.2, z_8, o_4.2.2.1, o_4.2.2.2), rfl, by subst ez_8; subst ez_7; subst eo_6; subst ez_5; subst eo_4; subst ez_3; subst ez_2; subst ez_1; first | (rw [fm_go, if_pos c_50, if_pos c_126]; done) | (simp only [fm_go, if_pos c_50, if_pos c_126]; done) | (rw [fm_go, if_pos c_50, if_pos c_126] <;> rfl), by rw [ht]; exact hP, va_K.moved hW.alike hK, hD⟩, hS.F ht⟩) hS.2.2 dX1_go_172
            · skip
              refine lv_if_ne (tgt := 168) hx hb dX1_go_160 (by decide) (fun c_160 => ?_) (fun c_160 => ?_)
              · skip
                refine lv_lconst (v := 0) hx hb dX1_go_168 (by decide) ?_
                exact W.eq (by rw [if_neg c_160] <;> rfl) (J169_160 _ _ hP hS)
              · skip
                refine lv_lload hx hb dX1_go_163 (lv_at hl 0 rfl) ?_
                refine lv_goto (tgt := 169) hx hb dX1_go_165 (by decide) ?_
                exact W.eq (by rw [if_pos c_160] <;> rfl) (J169_160 _ _ hP hS)
          · skip
            exact absurd c_50 c_131
      · skip
        refine lv_aload_n hx hb dX1_go_53 rfl (lv_at hl 3 rfl) ?_
        refine lv_aload_n hx hb dX1_go_54 rfl (lv_at hl 3 rfl) ?_
        refine va_get (D := (dC, dI)) (ci := 1) (v := .int v_vsAtp) (C := RX1) (T := TX1) (N := 9) hx hb hts hwX hown hK hP 0 rfl rfl 2 (by decide) (hts (.fieldLink RX1 21 "StageWalkerModel" "vsAtp" "I") (by decide +kernel)) (fun _ h9 => h9) rfl dX1_go_55 ?_
        refine lv_lload hx hb dX1_go_58 (lv_at hl 2 rfl) ?_
        refine lv_iload_n hx hb dX1_go_60 rfl (lv_at hl 5 rfl) ?_
        refine lv_iload hx hb dX1_go_61 (lv_at hl 0 rfl) ?_
        refine lv_aload_n hx hb dX1_go_63 rfl (lv_at hl 3 rfl) ?_
        refine lv_iconst (v := 2) hx hb dX1_go_64 (by decide) ?_
        refine cr_i (va_runV (As := [.int 2]) (rest := [.int z_3, .int a1, .long z_1, .int v_vsAtp, .ref h0]) ⟨hx, hb, hml, hown, hts⟩ (ctm_has l dC dI h0 q_memory k_memory H.size v_atp v_vsAtp v_hgatp v_rights 0 v_found 0 0 m_memory 2) (cwV 1 hts gX1_go_X1_has rfl rfl rfl (by decide +kernel) ⟨Nat.le_of_ble_eq_true rfl, Nat.le_of_ble_eq_true rfl⟩) ⟨fun a U g mk q => ⟨q.1, q.2.1, q.2.2.1, va_K.moved (u := U) (U := U.calling g mk a) (Vm.Alike.refl U.vm) q.2.2.2.1, q.2.2.2.2⟩, va_recv hK hP (ci := 1) (q0 := 0) rfl rfl, fun U hU hW => ⟨rfl, by rw [hU], by rw [hU]; exact hP, va_K.moved hW.alike hK, hD.weaken (fun _ _ _ _ => trivial)⟩⟩ rfl rfl hl.1 rfl (lv_room (Nat.le_of_ble_eq_true rfl)) dX1_go_65 ⟨Nat.zero_le _, Nat.zero_le _⟩) hA hD hP hS (fun H locs hP hS => ?_)
        refine lv_aload_n hx hb dX1_go_68 rfl (lv_at hl 3 rfl) ?_
        refine lv_iconst (v := 3) hx hb dX1_go_69 (by decide) ?_
        refine cr_i (va_runV (As := [.int 3]) (rest := [.int ((fm_has v_rights 2)), .int z_3, .int a1, .long z_1, .int v_vsAtp, .ref h0]) ⟨hx, hb, hml, hown, hts⟩ (ctm_has l dC dI h0 q_memory k_memory H.size v_atp v_vsAtp v_hgatp v_rights 0 v_found 0 0 m_memory 3) (cwV 1 hts gX1_go_X1_has rfl rfl rfl (by decide +kernel) ⟨Nat.le_of_ble_eq_true rfl, Nat.le_of_ble_eq_true rfl⟩) ⟨fun a U g mk q => ⟨q.1, q.2.1, q.2.2.1, va_K.moved (u := U) (U := U.calling g mk a) (Vm.Alike.refl U.vm) q.2.2.2.1, q.2.2.2.2⟩, va_recv hK hP (ci := 1) (q0 := 0) rfl rfl, fun U hU hW => ⟨rfl, by rw [hU], by rw [hU]; exact hP, va_K.moved hW.alike hK, hD.weaken (fun _ _ _ _ => trivial)⟩⟩ rfl rfl hl.1 rfl (lv_room (Nat.le_of_ble_eq_true rfl)) dX1_go_70 ⟨Nat.zero_le _, Nat.zero_le _⟩) hA hD hP hS (fun H locs hP hS => ?_)
        refine lj_i (j := 89) (z0 := if ((fm_has v_rights 3)) = 0 then if ((fm_has v_rights 1)) = 0 then 0 else 1 else 1) (rest := [.int ((fm_has v_rights 2)), .int z_3, .int a1, .long z_1, .int v_vsAtp, .ref h0]) hP hS (fun H locs hP hS z_9 ez_9 => ?_) (fun J89_73 => ?_)
        · skip
          have oz_9 : z_9 = 0 ∨ z_9 = 1 := by rw [ez_9]; exact ite01 (ite01 (Or.inl rfl) (Or.inr rfl)) (Or.inr rfl)
          refine lv_iconst (v := 1) hx hb dX1_go_89 (by decide) ?_
          refine cw_l (va_runV (As := [.int v_vsAtp, .long z_1, .int a1, .int z_3, .int ((fm_has v_rights 2)), .int z_9, .int 1]) (rest := []) ⟨hx, hb, hml, hown, hts⟩ (ctm_first1 l dC dI h0 q_memory k_memory H.size v_atp v_vsAtp v_hgatp v_rights 0 v_found 0 0 m_memory v_vsAtp z_1 a1 z_3 ((fm_has v_rights 2)) z_9) (cwV 7 hts gX1_go_X1_first rfl rfl rfl (by decide +kernel) ⟨Nat.le_of_ble_eq_true rfl, Nat.le_of_ble_eq_true rfl⟩) ⟨fun a U g mk q => ⟨q.1, q.2.1, q.2.2.1, va_K.moved (u := U) (U := U.calling g mk a) (Vm.Alike.refl U.vm) q.2.2.2.1, q.2.2.2.2⟩, va_recv hK hP (ci := 1) (q0 := 0) rfl rfl, fun U hU hW => ⟨rfl, by rw [hU], by rw [hU]; exact hP, va_K.moved hW.alike hK, hD.weaken (fun _ _ _ _ => trivial)⟩⟩ rfl rfl hl.1 rfl (lv_room (Nat.le_of_ble_eq_true rfl)) dX1_go_90 ⟨Nat.zero_le _, Nat.zero_le _⟩) hA hD hP hS (fun o_10 H locs eo_10 hP hD hS => ?_)
          have hP : va_P (dC, dI) vwCl (wm h0 q_memory k_memory v_atp v_vsAtp v_hgatp v_rights o_10.2.1 v_found o_10.2.2.1 o_10.2.2.2 m_memory) H := hP
          have hD : va_D A (wm h0 q_memory k_memory v_atp v_vsAtp v_hgatp v_rights o_10.2.1 v_found o_10.2.2.1 o_10.2.2.2 m_memory) := hD
          refine lv_goto (tgt := 120) hx hb dX1_go_93 (by decide) ?_
          refine lv_topl (fun z_11 ez_11 => ?_)
          refine lv_lstore (lv' := [(8, .long z_11), (7, .int z_3), (6, .int z_2), (4, .long z_1), (0, .ref h0), (1, .int a0), (2, .int a1), (3, .int a2)]) hx hb dX1_go_120 hl (by decide) rfl (fun ls hl => ?_)
          refine lv_aload_n hx hb dX1_go_122 rfl (lv_at hl 4 rfl) ?_
          refine va_get (D := (dC, dI)) (ci := 1) (v := .int o_10.2.1) (C := RX1) (T := TX1) (N := 9) hx hb hts hwX hown hK hP 0 rfl rfl 5 (by decide) (hts (.fieldLink RX1 14 "StageWalkerModel" "code" "I") (by decide +kernel)) (fun _ h9 => h9) rfl dX1_go_123 ?_
          refine lv_if_ne (tgt := 155) hx hb dX1_go_126 (by decide) (fun c_126 => ?_) (fun c_126 => ?_)
          · skip
            refine lv_aload_n hx hb dX1_go_155 rfl (lv_at hl 4 rfl) ?_
            refine lv_aload_n hx hb dX1_go_156 rfl (lv_at hl 4 rfl) ?_
            refine va_get (D := (dC, dI)) (ci := 1) (v := .int o_10.2.1) (C := RX1) (T := TX1) (N := 9) hx hb hts hwX hown hK hP 0 rfl rfl 5 (by decide) (hts (.fieldLink RX1 14 "StageWalkerModel" "code" "I") (by decide +kernel)) (fun _ h9 => h9) rfl dX1_go_157 ?_
            refine lv_if_ne (tgt := 168) hx hb dX1_go_160 (by decide) (fun c_160 => ?_) (fun c_160 => ?_)
            · skip
              refine lv_lconst (v := 0) hx hb dX1_go_168 (by decide) ?_
              refine va_put (D := (dC, dI)) (ci := 1) (v := .long 0) (ty := .long) (C := RX1) (T := TX1) (N := 9) hx hb hts hwX tyX1 tyX1_ok nmX1 hown hK hP hD hS 0 rfl rfl 6 (by decide) (hts (.fieldLink RX1 96 "StageWalkerModel" "found" "J") (by decide +kernel)) (fun _ h9 => h9) rfl (by decide +kernel) rfl rfl (Nat.le_of_ble_eq_true rfl) dX1_go_169 (fun H locs hP hD hS => ?_)
              have hP : va_P (dC, dI) vwCl (wm h0 q_memory k_memory v_atp v_vsAtp v_hgatp v_rights o_10.2.1 0 o_10.2.2.1 o_10.2.2.2 m_memory) H := hP
              have hD : va_D A (wm h0 q_memory k_memory v_atp v_vsAtp v_hgatp v_rights o_10.2.1 0 o_10.2.2.1 o_10.2.2.2 m_memory) := hD
              exact W.vret hx hb hr (fun t ht hW => ⟨⟨(o_10.2.1, 0, o_10.2.2.1, o_10.2.2.2), rfl, by subst ez_11; subst eo_10; subst ez_9; subst ez_3; subst ez_2; subst ez_1; first | (rw [fm_go, if_neg c_50, if_neg c_126]; done) | (simp only [fm_go, if_neg c_50, if_neg c_126]; done) | (rw [fm_go, if_neg c_50, if_neg c_126] <;> rfl), by rw [ht]; exact hP, va_K.moved hW.alike hK, hD⟩, hS.F ht⟩) hS.2.2 dX1_go_172
            · skip
              exact absurd c_160 c_126
          · skip
            refine lv_iload hx hb dX1_go_129 (lv_at hl 2 rfl) ?_
            refine lv_if_eq (tgt := 146) hx hb dX1_go_131 (by decide) (fun c_131 => ?_) (fun c_131 => ?_)
            · skip
              exact absurd c_131 c_50
            · skip
              refine lv_aload_n hx hb dX1_go_134 rfl (lv_at hl 4 rfl) ?_
              refine lv_lload hx hb dX1_go_135 (lv_at hl 0 rfl) ?_
              refine lv_iload_n hx hb dX1_go_137 rfl (lv_at hl 6 rfl) ?_
              refine lv_iload_n hx hb dX1_go_138 rfl (lv_at hl 6 rfl) ?_
              refine lv_iconst (v := 0) hx hb dX1_go_139 (by decide) ?_
              refine cw_l (va_runV (As := [.long z_11, .int a1, .int a1, .int 0]) (rest := []) ⟨hx, hb, hml, hown, hts⟩ (ctm_second_w l dC dI h0 q_memory k_memory H.size v_atp v_vsAtp v_hgatp v_rights o_10.2.1 v_found o_10.2.2.1 o_10.2.2.2 m_memory z_11 a1 a1 0 (Or.inl rfl)) (cwV 4 hts gX1_go_X1_second_w rfl rfl rfl (by decide +kernel) ⟨Nat.le_of_ble_eq_true rfl, Nat.le_of_ble_eq_true rfl⟩) ⟨fun a U g mk q => ⟨q.1, q.2.1, q.2.2.1, va_K.moved (u := U) (U := U.calling g mk a) (Vm.Alike.refl U.vm) q.2.2.2.1, q.2.2.2.2⟩, va_recv hK hP (ci := 1) (q0 := 0) rfl rfl, fun U hU hW => ⟨rfl, by rw [hU], by rw [hU]; exact hP, va_K.moved hW.alike hK, hD.weaken (fun _ _ _ _ => trivial)⟩⟩ rfl rfl hl.1 rfl (lv_room (Nat.le_of_ble_eq_true rfl)) dX1_go_140 ⟨Nat.zero_le _, Nat.zero_le _⟩) hA hD hP hS (fun o_12 H locs eo_12 hP hD hS => ?_)
              have hP : va_P (dC, dI) vwCl (wm h0 q_memory k_memory v_atp v_vsAtp v_hgatp v_rights o_12.2.1 v_found o_12.2.2.1 o_12.2.2.2 m_memory) H := hP
              have hD : va_D A (wm h0 q_memory k_memory v_atp v_vsAtp v_hgatp v_rights o_12.2.1 v_found o_12.2.2.1 o_12.2.2.2 m_memory) := hD
              refine lv_goto (tgt := 153) hx hb dX1_go_143 (by decide) ?_
              refine lv_topl (fun z_13 ez_13 => ?_)
              refine lv_lstore (lv' := [(8, .long z_13), (7, .int z_3), (6, .int z_2), (4, .long z_1), (0, .ref h0), (1, .int a0), (2, .int a1), (3, .int a2)]) hx hb dX1_go_153 hl (by decide) rfl (fun ls hl => ?_)
              refine lv_aload_n hx hb dX1_go_155 rfl (lv_at hl 4 rfl) ?_
              refine lv_aload_n hx hb dX1_go_156 rfl (lv_at hl 4 rfl) ?_
              refine va_get (D := (dC, dI)) (ci := 1) (v := .int o_12.2.1) (C := RX1) (T := TX1) (N := 9) hx hb hts hwX hown hK hP 0 rfl rfl 5 (by decide) (hts (.fieldLink RX1 14 "StageWalkerModel" "code" "I") (by decide +kernel)) (fun _ h9 => h9) rfl dX1_go_157 ?_
              refine lj_l (j := 169) (z0 := if o_12.2.1 = 0 then z_13 else 0) (rest := [.ref h0]) hP hS (fun H locs hP hS z_14 ez_14 => ?_) (fun J169_160 => ?_)
              · skip
                refine va_put (D := (dC, dI)) (ci := 1) (v := .long z_14) (ty := .long) (C := RX1) (T := TX1) (N := 9) hx hb hts hwX tyX1 tyX1_ok nmX1 hown hK hP hD hS 0 rfl rfl 6 (by decide) (hts (.fieldLink RX1 96 "StageWalkerModel" "found" "J") (by decide +kernel)) (fun _ h9 => h9) rfl (by decide +kernel) rfl rfl (Nat.le_of_ble_eq_true rfl) dX1_go_169 (fun H locs hP hD hS => ?_)
                have hP : va_P (dC, dI) vwCl (wm h0 q_memory k_memory v_atp v_vsAtp v_hgatp v_rights o_12.2.1 z_14 o_12.2.2.1 o_12.2.2.2 m_memory) H := hP
                have hD : va_D A (wm h0 q_memory k_memory v_atp v_vsAtp v_hgatp v_rights o_12.2.1 z_14 o_12.2.2.1 o_12.2.2.2 m_memory) := hD
                exact W.vret hx hb hr (fun t ht hW => ⟨⟨(o_12.2.1, z_14, o_12.2.2.1, o_12.2.2.2), rfl, by subst ez_14; subst ez_13; subst eo_12; subst ez_11; subst eo_10; subst ez_9; subst ez_3; subst ez_2; subst ez_1; first | (rw [fm_go, if_neg c_50, if_pos c_126]; done) | (simp only [fm_go, if_neg c_50, if_pos c_126]; done) | (rw [fm_go, if_neg c_50, if_pos c_126] <;> rfl), by rw [ht]; exact hP, va_K.moved hW.alike hK, hD⟩, hS.F ht⟩) hS.2.2 dX1_go_172
              · skip
                refine lv_if_ne (tgt := 168) hx hb dX1_go_160 (by decide) (fun c_160 => ?_) (fun c_160 => ?_)
                · skip
                  refine lv_lconst (v := 0) hx hb dX1_go_168 (by decide) ?_
                  exact W.eq (by rw [if_neg c_160] <;> rfl) (J169_160 _ _ hP hS)
                · skip
                  refine lv_lload hx hb dX1_go_163 (lv_at hl 0 rfl) ?_
                  refine lv_goto (tgt := 169) hx hb dX1_go_165 (by decide) ?_
                  exact W.eq (by rw [if_pos c_160] <;> rfl) (J169_160 _ _ hP hS)
        · skip
          refine lv_if_ne (tgt := 84) hx hb dX1_go_73 (by decide) (fun c_73 => ?_) (fun c_73 => ?_)
          · skip
            refine lv_iconst (v := 1) hx hb dX1_go_84 (by decide) ?_
            refine lv_goto (tgt := 89) hx hb dX1_go_85 (by decide) ?_
            exact W.eq (by rw [if_neg c_73] <;> rfl) (J89_73 _ _ hP hS)
          · skip
            refine lv_aload_n hx hb dX1_go_76 rfl (lv_at hl 3 rfl) ?_
            refine lv_iconst (v := 1) hx hb dX1_go_77 (by decide) ?_
            refine cr_i (va_runV (As := [.int 1]) (rest := [.int ((fm_has v_rights 2)), .int z_3, .int a1, .long z_1, .int v_vsAtp, .ref h0]) ⟨hx, hb, hml, hown, hts⟩ (ctm_has l dC dI h0 q_memory k_memory H.size v_atp v_vsAtp v_hgatp v_rights 0 v_found 0 0 m_memory 1) (cwV 1 hts gX1_go_X1_has rfl rfl rfl (by decide +kernel) ⟨Nat.le_of_ble_eq_true rfl, Nat.le_of_ble_eq_true rfl⟩) ⟨fun a U g mk q => ⟨q.1, q.2.1, q.2.2.1, va_K.moved (u := U) (U := U.calling g mk a) (Vm.Alike.refl U.vm) q.2.2.2.1, q.2.2.2.2⟩, va_recv hK hP (ci := 1) (q0 := 0) rfl rfl, fun U hU hW => ⟨rfl, by rw [hU], by rw [hU]; exact hP, va_K.moved hW.alike hK, hD.weaken (fun _ _ _ _ => trivial)⟩⟩ rfl rfl hl.1 rfl (lv_room (Nat.le_of_ble_eq_true rfl)) dX1_go_78 ⟨Nat.zero_le _, Nat.zero_le _⟩) hA hD hP hS (fun H locs hP hS => ?_)
            refine lv_if_eq (tgt := 88) hx hb dX1_go_81 (by decide) (fun c_81 => ?_) (fun c_81 => ?_)
            · skip
              refine lv_iconst (v := 0) hx hb dX1_go_88 (by decide) ?_
              exact W.eq (by rw [if_pos c_73, if_pos c_81] <;> rfl) (J89_73 _ _ hP hS)
            · skip
              refine lv_iconst (v := 1) hx hb dX1_go_84 (by decide) ?_
              refine lv_goto (tgt := 89) hx hb dX1_go_85 (by decide) ?_
              exact W.eq (by rw [if_pos c_73, if_neg c_81] <;> rfl) (J89_73 _ _ hP hS)
    · skip
      refine lv_if_ne (tgt := 45) hx hb dX1_go_38 (by decide) (fun c_38 => ?_) (fun c_38 => ?_)
      · skip
        refine lv_iconst (v := 0) hx hb dX1_go_45 (by decide) ?_
        exact W.eq (by rw [if_neg c_38] <;> rfl) (J46_38 _ _ hP hS)
      · skip
        refine lv_iconst (v := 1) hx hb dX1_go_41 (by decide) ?_
        refine lv_goto (tgt := 46) hx hb dX1_go_42 (by decide) ?_
        exact W.eq (by rw [if_pos c_38] <;> rfl) (J46_38 _ _ hP hS)
  · skip
    refine lv_icmp_lt (tgt := 32) hx hb dX1_go_25 (by decide) (fun c_25 => ?_) (fun c_25 => ?_)
    · skip
      refine lv_iconst (v := 0) hx hb dX1_go_32 (by decide) ?_
      exact W.eq (by rw [if_pos c_25] <;> rfl) (J33_25 _ _ hP hS)
    · skip
      refine lv_iconst (v := 1) hx hb dX1_go_28 (by decide) ?_
      refine lv_goto (tgt := 33) hx hb dX1_go_29 (by decide) ?_
      exact W.eq (by rw [if_neg c_25] <;> rfl) (J33_25 _ _ hP hS)
def fm_translate (v_atp : Int32) (v_vsAtp : Int32) (v_hgatp : Int32) (v_rights : Int32) (v_code : Int32) (v_found : Int64) (v_wanted : Int64) (v_ofEntry : Int32) (m_memory : Nat → Int32) (a0 : Int32) (a1 : Int32) (a2 : Int32) : Int32 × Int32 × Int64 × Int64 × Int32 := if ((fm_isKind a0 a1)) = 0 then ((-1), v_code, v_found, v_wanted, v_ofEntry) else ((fm_go v_atp v_vsAtp v_hgatp v_rights m_memory a0 a1 a2).1, (fm_go v_atp v_vsAtp v_hgatp v_rights m_memory a0 a1 a2).1, (fm_go v_atp v_vsAtp v_hgatp v_rights m_memory a0 a1 a2).2.1, (fm_go v_atp v_vsAtp v_hgatp v_rights m_memory a0 a1 a2).2.2.1, (fm_go v_atp v_vsAtp v_hgatp v_rights m_memory a0 a1 a2).2.2.2)
set_option maxHeartbeats 4000000 in
set_option maxRecDepth 100000 in
theorem ctm_translate (l : Launch) (dC : Nat → ClassId) (dI : Nat → Nat → Nat) (h0 : Nat) (q_memory : Nat) (k_memory : ClassId) (sz : Nat) (v_atp : Int32) (v_vsAtp : Int32) (v_hgatp : Int32) (v_rights : Int32) (v_code : Int32) (v_found : Int64) (v_wanted : Int64) (v_ofEntry : Int32) (m_memory : Nat → Int32) (a0 : Int32) (a1 : Int32) (a2 : Int32) : MWi l yX1_translate wsX1_translate ({ frames := 5, cells := 0, slots := 0, locals := 145 }) (dC, dI) vwCl [(k_memory, .int)] [.ref h0, .int a0, .int a1, .int a2] sz (wm h0 q_memory k_memory v_atp v_vsAtp v_hgatp v_rights v_code v_found v_wanted v_ofEntry m_memory) (fun u : Int32 × Int32 × Int64 × Int64 × Int32 => (wm h0 q_memory k_memory v_atp v_vsAtp v_hgatp v_rights u.2.1 u.2.2.1 u.2.2.2.1 u.2.2.2.2 m_memory)) (fun u : Int32 × Int32 × Int64 × Int64 × Int32 => u.1) (fm_translate v_atp v_vsAtp v_hgatp v_rights v_code v_found v_wanted v_ofEntry m_memory a0 a1 a2) := by
  refine Met.ofW (cc := cX1_translate) (maxL := 4) (ret := (some .int)) (by decide) rfl ?_
  intro p e s m args below meth c s₁ B hml hv
  obtain ⟨rfl, hsz, hP, hK, hD0⟩ := hv
  have hx := B.exec
  have hb := B.bytes
  have hr := B.returns
  have hts := atoms_spec (ws := wsX1_translate) B.pre
  have hown : s.vm.findClass RX1 = some m.cls := findClass_of_methodNamed B.named
  have hlocks := B.notSynchronized
  subst hsz
  have hwX : ∀ w ∈ u_ws RX1 TX1 9, w ∈ wsX1_translate := by decide +kernel
  have hD := hD0.self (sz := s.heap.size)
  generalize hAe : va_A (wm h0 q_memory k_memory v_atp v_vsAtp v_hgatp v_rights v_code v_found v_wanted v_ofEntry m_memory) s.heap.size = A at hD ⊢
  have hA : ∀ q : Nat, s.heap.size ≤ q → A q := fun q h => by rw [← hAe]; exact Or.inr h
  have hS : va_S A s.heap s.heap [] := va_S.rf
  have hP : va_P (dC, dI) vwCl (wm h0 q_memory k_memory v_atp v_vsAtp v_hgatp v_rights v_code v_found v_wanted v_ofEntry m_memory) s.heap := hP
  have hl := lv_entry ([.ref h0, .int a0, .int a1, .int a2]) (n := 4) (Nat.le_of_ble_eq_true rfl)
  rw [lg_entry_eq]
  generalize (lg_sl ([.ref h0, .int a0, .int a1, .int a2]) ++ List.replicate (4 - (lg_sl ([.ref h0, .int a0, .int a1, .int a2])).length) Slot.unset).toArray = ls at hl ⊢
  have hl : lv_has ls 4 [(0, .ref h0), (1, .int a0), (2, .int a1), (3, .int a2)] := hl
  refine lv_iload_n hx hb dX1_translate_0 rfl (lv_at hl 1 rfl) ?_
  refine lv_iload_n hx hb dX1_translate_1 rfl (lv_at hl 2 rfl) ?_
  refine cs_i (va_runS (As := [.int a0, .int a1]) (rest := []) ⟨hx, hb, hml, hown, hts⟩ (ctm_isKind l s.heap.size a0 a1) (va_cwS 2 hts gX1_translate_X1_isKind rfl rfl rfl (by decide +kernel) ⟨Nat.le_of_ble_eq_true rfl, Nat.le_of_ble_eq_true rfl⟩) ⟨fun a U g mk q => q, fun U hU hW => ⟨rfl, congrArg Array.size hU⟩⟩ rfl rfl hl.1 rfl (lv_room (Nat.le_of_ble_eq_true rfl)) dX1_translate_2 ⟨Nat.zero_le _, Nat.zero_le _⟩) hA hP hS (fun H locs hP hS => ?_)
  refine lv_if_ne (tgt := 10) hx hb dX1_translate_5 (by decide) (fun c_5 => ?_) (fun c_5 => ?_)
  · skip
    refine lv_aload_n hx hb dX1_translate_10 rfl (lv_at hl 0 rfl) ?_
    refine lv_iload_n hx hb dX1_translate_11 rfl (lv_at hl 1 rfl) ?_
    refine lv_iload_n hx hb dX1_translate_12 rfl (lv_at hl 2 rfl) ?_
    refine lv_iload_n hx hb dX1_translate_13 rfl (lv_at hl 3 rfl) ?_
    refine cw_v (va_runV (As := [.int a0, .int a1, .int a2]) (rest := []) ⟨hx, hb, hml, hown, hts⟩ (ctm_go l dC dI h0 q_memory k_memory H.size v_atp v_vsAtp v_hgatp v_rights v_code v_found v_wanted v_ofEntry m_memory a0 a1 a2) (cwV 3 hts gX1_translate_X1_go rfl rfl rfl (by decide +kernel) ⟨Nat.le_of_ble_eq_true rfl, Nat.le_of_ble_eq_true rfl⟩) ⟨fun a U g mk q => ⟨q.1, q.2.1, q.2.2.1, va_K.moved (u := U) (U := U.calling g mk a) (Vm.Alike.refl U.vm) q.2.2.2.1, q.2.2.2.2⟩, va_recv hK hP (ci := 1) (q0 := 0) rfl rfl, fun U hU hW => ⟨rfl, by rw [hU], by rw [hU]; exact hP, va_K.moved hW.alike hK, hD.weaken (fun _ _ _ _ => trivial)⟩⟩ rfl rfl hl.1 rfl (lv_room (Nat.le_of_ble_eq_true rfl)) dX1_translate_14 ⟨Nat.zero_le _, Nat.zero_le _⟩) hA hD hP hS (fun o_1 H locs eo_1 hP hD hS => ?_)
    have hP : va_P (dC, dI) vwCl (wm h0 q_memory k_memory v_atp v_vsAtp v_hgatp v_rights o_1.1 o_1.2.1 o_1.2.2.1 o_1.2.2.2 m_memory) H := hP
    have hD : va_D A (wm h0 q_memory k_memory v_atp v_vsAtp v_hgatp v_rights o_1.1 o_1.2.1 o_1.2.2.1 o_1.2.2.2 m_memory) := hD
    refine lv_aload_n hx hb dX1_translate_17 rfl (lv_at hl 0 rfl) ?_
    refine va_get (D := (dC, dI)) (ci := 1) (v := .int o_1.1) (C := RX1) (T := TX1) (N := 9) hx hb hts hwX hown hK hP 0 rfl rfl 5 (by decide) (hts (.fieldLink RX1 14 "StageWalkerModel" "code" "I") (by decide +kernel)) (fun _ h9 => h9) rfl dX1_translate_18 ?_
    exact W.iret (v := o_1.1) hx hb hr (fun t ht hW => ⟨⟨_, (o_1.1, o_1.1, o_1.2.1, o_1.2.2.1, o_1.2.2.2), rfl, ⟨rfl, by subst eo_1; first | (rw [fm_translate, if_neg c_5]; done) | (simp only [fm_translate, if_neg c_5]; done) | (rw [fm_translate, if_neg c_5] <;> rfl)⟩, by rw [ht]; exact hP, va_K.moved hW.alike hK, hD⟩, hS.F ht⟩) hS.2.2 dX1_translate_21
  · skip
    refine lv_iconst (v := -1) hx hb dX1_translate_8 (by decide) ?_
    exact W.iret (v := (-1)) hx hb hr (fun t ht hW => ⟨⟨_, ((-1), v_code, v_found, v_wanted, v_ofEntry), rfl, ⟨rfl, by first | (rw [fm_translate, if_pos c_5]; done) | (simp only [fm_translate, if_pos c_5]; done) | (rw [fm_translate, if_pos c_5] <;> rfl)⟩, by rw [ht]; exact hP, va_K.moved hW.alike hK, hD⟩, hS.F ht⟩) hS.2.2 dX1_translate_9
