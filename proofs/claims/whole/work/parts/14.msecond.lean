/-! StageWalkerModel.second, its walk -/
def fm_second_w (v_hgatp : Int32) (v_rights : Int32) (v_code : Int32) (v_wanted : Int64) (v_ofEntry : Int32) (m_memory : Nat → Int32) (a0 : Int64) (a1 : Int32) (a2 : Int32) (a3 : Int32) : Int64 × Int32 × Int64 × Int32 := if v_hgatp < 0 then if ((fm_inMemory v_code a2 ((jlshl ((v_hgatp &&& 4194300).toInt64) 12) + (4 * ((jlshr a0 22) &&& 4095)))).2) = 0 then if ((fm_stands (m_memory ((((fm_inMemory v_code a2 ((jlshl ((v_hgatp &&& 4194300).toInt64) 12) + (4 * ((jlshr a0 22) &&& 4095)))).1) / 4).toInt32).toNatClampNeg))) = 0 then (0, (fm_raise a2 20 21 23), a0, a3) else if ((fm_isLeaf (m_memory ((((fm_inMemory v_code a2 ((jlshl ((v_hgatp &&& 4194300).toInt64) 12) + (4 * ((jlshr a0 22) &&& 4095)))).1) / 4).toInt32).toNatClampNeg))) = 0 then if ((fm_isSet (m_memory ((((fm_inMemory v_code a2 ((jlshl ((v_hgatp &&& 4194300).toInt64) 12) + (4 * ((jlshr a0 22) &&& 4095)))).1) / 4).toInt32).toNatClampNeg) 4)) = 0 then if ((fm_isSet (m_memory ((((fm_inMemory v_code a2 ((jlshl ((v_hgatp &&& 4194300).toInt64) 12) + (4 * ((jlshr a0 22) &&& 4095)))).1) / 4).toInt32).toNatClampNeg) 6)) = 0 then if ((fm_isSet (m_memory ((((fm_inMemory v_code a2 ((jlshl ((v_hgatp &&& 4194300).toInt64) 12) + (4 * ((jlshr a0 22) &&& 4095)))).1) / 4).toInt32).toNatClampNeg) 7)) = 0 then if ((fm_inMemory ((fm_inMemory v_code a2 ((jlshl ((v_hgatp &&& 4194300).toInt64) 12) + (4 * ((jlshr a0 22) &&& 4095)))).2) a2 ((jlshl ((jiushr (m_memory ((((fm_inMemory v_code a2 ((jlshl ((v_hgatp &&& 4194300).toInt64) 12) + (4 * ((jlshr a0 22) &&& 4095)))).1) / 4).toInt32).toNatClampNeg) 10).toInt64) 12) + (4 * ((jlshr a0 12) &&& 1023)))).2) = 0 then if ((fm_stands (m_memory ((((fm_inMemory ((fm_inMemory v_code a2 ((jlshl ((v_hgatp &&& 4194300).toInt64) 12) + (4 * ((jlshr a0 22) &&& 4095)))).2) a2 ((jlshl ((jiushr (m_memory ((((fm_inMemory v_code a2 ((jlshl ((v_hgatp &&& 4194300).toInt64) 12) + (4 * ((jlshr a0 22) &&& 4095)))).1) / 4).toInt32).toNatClampNeg) 10).toInt64) 12) + (4 * ((jlshr a0 12) &&& 1023)))).1) / 4).toInt32).toNatClampNeg))) = 0 then (0, (fm_raise a2 20 21 23), a0, a3) else if ((fm_isLeaf (m_memory ((((fm_inMemory ((fm_inMemory v_code a2 ((jlshl ((v_hgatp &&& 4194300).toInt64) 12) + (4 * ((jlshr a0 22) &&& 4095)))).2) a2 ((jlshl ((jiushr (m_memory ((((fm_inMemory v_code a2 ((jlshl ((v_hgatp &&& 4194300).toInt64) 12) + (4 * ((jlshr a0 22) &&& 4095)))).1) / 4).toInt32).toNatClampNeg) 10).toInt64) 12) + (4 * ((jlshr a0 12) &&& 1023)))).1) / 4).toInt32).toNatClampNeg))) = 0 then if ((fm_isSet (m_memory ((((fm_inMemory ((fm_inMemory v_code a2 ((jlshl ((v_hgatp &&& 4194300).toInt64) 12) + (4 * ((jlshr a0 22) &&& 4095)))).2) a2 ((jlshl ((jiushr (m_memory ((((fm_inMemory v_code a2 ((jlshl ((v_hgatp &&& 4194300).toInt64) 12) + (4 * ((jlshr a0 22) &&& 4095)))).1) / 4).toInt32).toNatClampNeg) 10).toInt64) 12) + (4 * ((jlshr a0 12) &&& 1023)))).1) / 4).toInt32).toNatClampNeg) 4)) = 0 then if ((fm_isSet (m_memory ((((fm_inMemory ((fm_inMemory v_code a2 ((jlshl ((v_hgatp &&& 4194300).toInt64) 12) + (4 * ((jlshr a0 22) &&& 4095)))).2) a2 ((jlshl ((jiushr (m_memory ((((fm_inMemory v_code a2 ((jlshl ((v_hgatp &&& 4194300).toInt64) 12) + (4 * ((jlshr a0 22) &&& 4095)))).1) / 4).toInt32).toNatClampNeg) 10).toInt64) 12) + (4 * ((jlshr a0 12) &&& 1023)))).1) / 4).toInt32).toNatClampNeg) 6)) = 0 then if ((fm_isSet (m_memory ((((fm_inMemory ((fm_inMemory v_code a2 ((jlshl ((v_hgatp &&& 4194300).toInt64) 12) + (4 * ((jlshr a0 22) &&& 4095)))).2) a2 ((jlshl ((jiushr (m_memory ((((fm_inMemory v_code a2 ((jlshl ((v_hgatp &&& 4194300).toInt64) 12) + (4 * ((jlshr a0 22) &&& 4095)))).1) / 4).toInt32).toNatClampNeg) 10).toInt64) 12) + (4 * ((jlshr a0 12) &&& 1023)))).1) / 4).toInt32).toNatClampNeg) 7)) = 0 then (0, (fm_raise a2 20 21 23), a0, a3) else (0, (fm_raise a2 20 21 23), a0, a3) else (0, (fm_raise a2 20 21 23), a0, a3) else (0, (fm_raise a2 20 21 23), a0, a3) else if ((fm_isSet (m_memory ((((fm_inMemory ((fm_inMemory v_code a2 ((jlshl ((v_hgatp &&& 4194300).toInt64) 12) + (4 * ((jlshr a0 22) &&& 4095)))).2) a2 ((jlshl ((jiushr (m_memory ((((fm_inMemory v_code a2 ((jlshl ((v_hgatp &&& 4194300).toInt64) 12) + (4 * ((jlshr a0 22) &&& 4095)))).1) / 4).toInt32).toNatClampNeg) 10).toInt64) 12) + (4 * ((jlshr a0 12) &&& 1023)))).1) / 4).toInt32).toNatClampNeg) 4)) = 0 then (0, (fm_raise a2 20 21 23), a0, a3) else if ((fm_allows (m_memory ((((fm_inMemory ((fm_inMemory v_code a2 ((jlshl ((v_hgatp &&& 4194300).toInt64) 12) + (4 * ((jlshr a0 22) &&& 4095)))).2) a2 ((jlshl ((jiushr (m_memory ((((fm_inMemory v_code a2 ((jlshl ((v_hgatp &&& 4194300).toInt64) 12) + (4 * ((jlshr a0 22) &&& 4095)))).1) / 4).toInt32).toNatClampNeg) 10).toInt64) 12) + (4 * ((jlshr a0 12) &&& 1023)))).1) / 4).toInt32).toNatClampNeg) a1 ((if a3 = 0 then if ((fm_has v_rights 1)) = 0 then 0 else 1 else 0 : Int32)))) = 0 then (0, (fm_raise a2 20 21 23), a0, a3) else ((fm_inMemory ((fm_inMemory ((fm_inMemory v_code a2 ((jlshl ((v_hgatp &&& 4194300).toInt64) 12) + (4 * ((jlshr a0 22) &&& 4095)))).2) a2 ((jlshl ((jiushr (m_memory ((((fm_inMemory v_code a2 ((jlshl ((v_hgatp &&& 4194300).toInt64) 12) + (4 * ((jlshr a0 22) &&& 4095)))).1) / 4).toInt32).toNatClampNeg) 10).toInt64) 12) + (4 * ((jlshr a0 12) &&& 1023)))).2) a2 ((fm_result (m_memory ((((fm_inMemory ((fm_inMemory v_code a2 ((jlshl ((v_hgatp &&& 4194300).toInt64) 12) + (4 * ((jlshr a0 22) &&& 4095)))).2) a2 ((jlshl ((jiushr (m_memory ((((fm_inMemory v_code a2 ((jlshl ((v_hgatp &&& 4194300).toInt64) 12) + (4 * ((jlshr a0 22) &&& 4095)))).1) / 4).toInt32).toNatClampNeg) 10).toInt64) 12) + (4 * ((jlshr a0 12) &&& 1023)))).1) / 4).toInt32).toNatClampNeg) 0 a0))).1, (fm_inMemory ((fm_inMemory ((fm_inMemory v_code a2 ((jlshl ((v_hgatp &&& 4194300).toInt64) 12) + (4 * ((jlshr a0 22) &&& 4095)))).2) a2 ((jlshl ((jiushr (m_memory ((((fm_inMemory v_code a2 ((jlshl ((v_hgatp &&& 4194300).toInt64) 12) + (4 * ((jlshr a0 22) &&& 4095)))).1) / 4).toInt32).toNatClampNeg) 10).toInt64) 12) + (4 * ((jlshr a0 12) &&& 1023)))).2) a2 ((fm_result (m_memory ((((fm_inMemory ((fm_inMemory v_code a2 ((jlshl ((v_hgatp &&& 4194300).toInt64) 12) + (4 * ((jlshr a0 22) &&& 4095)))).2) a2 ((jlshl ((jiushr (m_memory ((((fm_inMemory v_code a2 ((jlshl ((v_hgatp &&& 4194300).toInt64) 12) + (4 * ((jlshr a0 22) &&& 4095)))).1) / 4).toInt32).toNatClampNeg) 10).toInt64) 12) + (4 * ((jlshr a0 12) &&& 1023)))).1) / 4).toInt32).toNatClampNeg) 0 a0))).2, v_wanted, v_ofEntry) else (0, (fm_inMemory ((fm_inMemory v_code a2 ((jlshl ((v_hgatp &&& 4194300).toInt64) 12) + (4 * ((jlshr a0 22) &&& 4095)))).2) a2 ((jlshl ((jiushr (m_memory ((((fm_inMemory v_code a2 ((jlshl ((v_hgatp &&& 4194300).toInt64) 12) + (4 * ((jlshr a0 22) &&& 4095)))).1) / 4).toInt32).toNatClampNeg) 10).toInt64) 12) + (4 * ((jlshr a0 12) &&& 1023)))).2, v_wanted, v_ofEntry) else (0, (fm_raise a2 20 21 23), a0, a3) else (0, (fm_raise a2 20 21 23), a0, a3) else (0, (fm_raise a2 20 21 23), a0, a3) else if ((if (((m_memory ((((fm_inMemory v_code a2 ((jlshl ((v_hgatp &&& 4194300).toInt64) 12) + (4 * ((jlshr a0 22) &&& 4095)))).1) / 4).toInt32).toNatClampNeg) >>> (10 &&& 31)) &&& 1023) = 0 then 1 else 0 : Int32)) = 0 then (0, (fm_raise a2 20 21 23), a0, a3) else if ((fm_isSet (m_memory ((((fm_inMemory v_code a2 ((jlshl ((v_hgatp &&& 4194300).toInt64) 12) + (4 * ((jlshr a0 22) &&& 4095)))).1) / 4).toInt32).toNatClampNeg) 4)) = 0 then (0, (fm_raise a2 20 21 23), a0, a3) else if ((fm_allows (m_memory ((((fm_inMemory v_code a2 ((jlshl ((v_hgatp &&& 4194300).toInt64) 12) + (4 * ((jlshr a0 22) &&& 4095)))).1) / 4).toInt32).toNatClampNeg) a1 ((if a3 = 0 then if ((fm_has v_rights 1)) = 0 then 0 else 1 else 0 : Int32)))) = 0 then (0, (fm_raise a2 20 21 23), a0, a3) else ((fm_inMemory ((fm_inMemory v_code a2 ((jlshl ((v_hgatp &&& 4194300).toInt64) 12) + (4 * ((jlshr a0 22) &&& 4095)))).2) a2 ((fm_result (m_memory ((((fm_inMemory v_code a2 ((jlshl ((v_hgatp &&& 4194300).toInt64) 12) + (4 * ((jlshr a0 22) &&& 4095)))).1) / 4).toInt32).toNatClampNeg) 1 a0))).1, (fm_inMemory ((fm_inMemory v_code a2 ((jlshl ((v_hgatp &&& 4194300).toInt64) 12) + (4 * ((jlshr a0 22) &&& 4095)))).2) a2 ((fm_result (m_memory ((((fm_inMemory v_code a2 ((jlshl ((v_hgatp &&& 4194300).toInt64) 12) + (4 * ((jlshr a0 22) &&& 4095)))).1) / 4).toInt32).toNatClampNeg) 1 a0))).2, v_wanted, v_ofEntry) else (0, (fm_inMemory v_code a2 ((jlshl ((v_hgatp &&& 4194300).toInt64) 12) + (4 * ((jlshr a0 22) &&& 4095)))).2, v_wanted, v_ofEntry) else ((fm_inMemory v_code a2 a0).1, (fm_inMemory v_code a2 a0).2, v_wanted, v_ofEntry)
set_option maxHeartbeats 4000000 in
set_option maxRecDepth 100000 in
theorem ctm_second_w (l : Launch) (dC : Nat → ClassId) (dI : Nat → Nat → Nat) (h0 : Nat) (q_memory : Nat) (k_memory : ClassId) (sz : Nat) (v_atp : Int32) (v_vsAtp : Int32) (v_hgatp : Int32) (v_rights : Int32) (v_code : Int32) (v_found : Int64) (v_wanted : Int64) (v_ofEntry : Int32) (m_memory : Nat → Int32) (a0 : Int64) (a1 : Int32) (a2 : Int32) (a3 : Int32) (ha3 : a3 = 0 ∨ a3 = 1) : MWl l yX1_second_w wsX1_second_w ({ frames := 2, cells := 0, slots := 0, locals := 47 }) (dC, dI) vwCl [(k_memory, .int)] [.ref h0, .long a0, .int a1, .int a2, .int a3] sz (wm h0 q_memory k_memory v_atp v_vsAtp v_hgatp v_rights v_code v_found v_wanted v_ofEntry m_memory) (fun u : Int64 × Int32 × Int64 × Int32 => (wm h0 q_memory k_memory v_atp v_vsAtp v_hgatp v_rights u.2.1 v_found u.2.2.1 u.2.2.2 m_memory)) (fun u : Int64 × Int32 × Int64 × Int32 => u.1) (fm_second_w v_hgatp v_rights v_code v_wanted v_ofEntry m_memory a0 a1 a2 a3) := by
  refine Met.ofW (cc := cX1_second_w) (maxL := 14) (ret := (some .long)) (by decide) rfl ?_
  intro p e s m args below meth c s₁ B hml hv
  obtain ⟨rfl, hsz, hP, hK, hD0⟩ := hv
  have hx := B.exec
  have hb := B.bytes
  have hr := B.returns
  have hts := atoms_spec (ws := wsX1_second_w) B.pre
  have hown : s.vm.findClass RX1 = some m.cls := findClass_of_methodNamed B.named
  have hlocks := B.notSynchronized
  subst hsz
  have hwX : ∀ w ∈ u_ws RX1 TX1 9, w ∈ wsX1_second_w := by decide +kernel
  have hD := hD0.self (sz := s.heap.size)
  generalize hAe : va_A (wm h0 q_memory k_memory v_atp v_vsAtp v_hgatp v_rights v_code v_found v_wanted v_ofEntry m_memory) s.heap.size = A at hD ⊢
  have hA : ∀ q : Nat, s.heap.size ≤ q → A q := fun q h => by rw [← hAe]; exact Or.inr h
  have hS : va_S A s.heap s.heap [] := va_S.rf
  have hP : va_P (dC, dI) vwCl (wm h0 q_memory k_memory v_atp v_vsAtp v_hgatp v_rights v_code v_found v_wanted v_ofEntry m_memory) s.heap := hP
  have hl := lv_entry ([.ref h0, .long a0, .int a1, .int a2, .int a3]) (n := 14) (Nat.le_of_ble_eq_true rfl)
  rw [lg_entry_eq]
  generalize (lg_sl ([.ref h0, .long a0, .int a1, .int a2, .int a3]) ++ List.replicate (14 - (lg_sl ([.ref h0, .long a0, .int a1, .int a2, .int a3])).length) Slot.unset).toArray = ls at hl ⊢
  have hl : lv_has ls 14 [(0, .ref h0), (1, .long a0), (3, .int a1), (4, .int a2), (5, .int a3)] := hl
  refine lv_aload_n hx hb dX1_second_w_0 rfl (lv_at hl 0 rfl) ?_
  refine va_get (D := (dC, dI)) (ci := 1) (v := .int v_hgatp) (C := RX1) (T := TX1) (N := 9) hx hb hts hwX hown hK hP 0 rfl rfl 3 (by decide) (hts (.fieldLink RX1 24 "StageWalkerModel" "hgatp" "I") (by decide +kernel)) (fun _ h9 => h9) rfl dX1_second_w_1 ?_
  refine lv_if_lt (tgt := 15) hx hb dX1_second_w_4 (by decide) (fun c_4 => ?_) (fun c_4 => ?_)
  · skip
    refine lv_aload_n hx hb dX1_second_w_15 rfl (lv_at hl 0 rfl) ?_
    refine va_get (D := (dC, dI)) (ci := 1) (v := .int v_hgatp) (C := RX1) (T := TX1) (N := 9) hx hb hts hwX hown hK hP 0 rfl rfl 3 (by decide) (hts (.fieldLink RX1 24 "StageWalkerModel" "hgatp" "I") (by decide +kernel)) (fun _ h9 => h9) rfl dX1_second_w_16 ?_
    refine lv_ldc hx hb hown (hts (.constant RX1 52 4194300) (by decide +kernel)) dX1_second_w_19 ?_
    refine lv_iand hx hb dX1_second_w_21 ?_
    refine lv_i2l (v := (v_hgatp &&& 4194300).toInt64) hx hb dX1_second_w_22 rfl ?_
    refine lv_bipush (v := 12) hx hb dX1_second_w_23 (by decide) ?_
    refine lv_lshl (v := jlshl ((v_hgatp &&& 4194300).toInt64) 12) hx hb dX1_second_w_25 rfl ?_
    refine lv_topl (fun z_1 ez_1 => ?_)
    refine lv_lstore (lv' := [(6, .long z_1), (0, .ref h0), (1, .long a0), (3, .int a1), (4, .int a2), (5, .int a3)]) hx hb dX1_second_w_26 hl (by decide) rfl (fun ls hl => ?_)
    refine lv_iconst (v := 1) hx hb dX1_second_w_28 (by decide) ?_
    refine lv_istore (lv' := [(8, .int 1), (6, .long z_1), (0, .ref h0), (1, .long a0), (3, .int a1), (4, .int a2), (5, .int a3)]) hx hb dX1_second_w_29 hl (by decide) rfl (fun ls hl => ?_)
    refine lv_iload hx hb dX1_second_w_31 (lv_at hl 0 rfl) ?_
    refine lv_if_lt (tgt := 275) hx hb dX1_second_w_33 (by decide) (fun c_33 => ?_) (fun c_33 => ?_)
    · skip
      exact absurd c_33 (by decide)
    · skip
      refine lv_lload hx hb dX1_second_w_36 (lv_at hl 1 rfl) ?_
      refine lv_ldc2 hx hb hown (hts (.constantLong RX1 53 4) (by decide +kernel)) dX1_second_w_38 ?_
      refine lv_iload hx hb dX1_second_w_41 (lv_at hl 0 rfl) ?_
      refine lv_iconst (v := 1) hx hb dX1_second_w_43 (by decide) ?_
      refine lv_icmp_ne (tgt := 58) hx hb dX1_second_w_44 (by decide) (fun c_44 => ?_) (fun c_44 => ?_)
      · skip
        exact absurd (by decide) c_44
      · skip
        refine lv_lload_n hx hb dX1_second_w_47 rfl (lv_at hl 3 rfl) ?_
        refine lv_bipush (v := 22) hx hb dX1_second_w_48 (by decide) ?_
        refine lv_lshr (v := jlshr a0 22) hx hb dX1_second_w_50 rfl ?_
        refine lv_ldc2 hx hb hown (hts (.constantLong RX1 46 4095) (by decide +kernel)) dX1_second_w_51 ?_
        refine lv_land hx hb dX1_second_w_54 ?_
        refine lv_goto (tgt := 66) hx hb dX1_second_w_55 (by decide) ?_
        refine lv_lmul hx hb dX1_second_w_66 ?_
        refine lv_ladd hx hb dX1_second_w_67 ?_
        refine lv_topl (fun z_2 ez_2 => ?_)
        refine lv_lstore (lv' := [(9, .long z_2), (8, .int 1), (6, .long z_1), (0, .ref h0), (1, .long a0), (3, .int a1), (4, .int a2), (5, .int a3)]) hx hb dX1_second_w_68 hl (by decide) rfl (fun ls hl => ?_)
        refine lv_aload_n hx hb dX1_second_w_70 rfl (lv_at hl 3 rfl) ?_
        refine lv_iload hx hb dX1_second_w_71 (lv_at hl 6 rfl) ?_
        refine lv_lload hx hb dX1_second_w_73 (lv_at hl 0 rfl) ?_
        refine cw_l (va_runV (As := [.int a2, .long z_2]) (rest := []) ⟨hx, hb, hml, hown, hts⟩ (ctm_inMemory l dC dI h0 q_memory k_memory s.heap.size v_atp v_vsAtp v_hgatp v_rights v_code v_found v_wanted v_ofEntry m_memory a2 z_2) (cwV 2 hts gX1_second_w_X1_inMemory rfl rfl rfl (by decide +kernel) ⟨Nat.le_of_ble_eq_true rfl, Nat.le_of_ble_eq_true rfl⟩) ⟨fun a U g mk q => ⟨q.1, q.2.1, q.2.2.1, va_K.moved (u := U) (U := U.calling g mk a) (Vm.Alike.refl U.vm) q.2.2.2.1, q.2.2.2.2⟩, va_recv hK hP (ci := 1) (q0 := 0) rfl rfl, fun U hU hW => ⟨rfl, by rw [hU], by rw [hU]; exact hP, va_K.moved hW.alike hK, hD.weaken (fun _ _ _ _ => trivial)⟩⟩ rfl rfl hl.1 rfl (lv_room (Nat.le_of_ble_eq_true rfl)) dX1_second_w_75 ⟨Nat.zero_le _, Nat.zero_le _⟩) hA hD hP hS (fun o_3 H locs eo_3 hP hD hS => ?_)
        have hP : va_P (dC, dI) vwCl (wm h0 q_memory k_memory v_atp v_vsAtp v_hgatp v_rights o_3.2 v_found v_wanted v_ofEntry m_memory) H := hP
        have hD : va_D A (wm h0 q_memory k_memory v_atp v_vsAtp v_hgatp v_rights o_3.2 v_found v_wanted v_ofEntry m_memory) := hD
        refine lv_topl (fun z_4 ez_4 => ?_)
        refine lv_lstore (lv' := [(9, .long z_4), (8, .int 1), (6, .long z_1), (0, .ref h0), (1, .long a0), (3, .int a1), (4, .int a2), (5, .int a3)]) hx hb dX1_second_w_78 hl (by decide) rfl (fun ls hl => ?_)
        refine lv_aload_n hx hb dX1_second_w_80 rfl (lv_at hl 3 rfl) ?_
        refine va_get (D := (dC, dI)) (ci := 1) (v := .int o_3.2) (C := RX1) (T := TX1) (N := 9) hx hb hts hwX hown hK hP 0 rfl rfl 5 (by decide) (hts (.fieldLink RX1 14 "StageWalkerModel" "code" "I") (by decide +kernel)) (fun _ h9 => h9) rfl dX1_second_w_81 ?_
        refine lv_if_eq (tgt := 89) hx hb dX1_second_w_84 (by decide) (fun c_84 => ?_) (fun c_84 => ?_)
        · skip
          refine lv_aload_n hx hb dX1_second_w_89 rfl (lv_at hl 3 rfl) ?_
          refine va_get (D := (dC, dI)) (ci := 1) (v := .ref q_memory) (C := RX1) (T := TX1) (N := 9) hx hb hts hwX hown hK hP 0 rfl rfl 0 (by decide) (hts (.fieldLink RX1 8 "StageWalkerModel" "memory" "[I") (by decide +kernel)) (fun _ h9 => h9) rfl dX1_second_w_90 ?_
          refine lv_lload hx hb dX1_second_w_93 (lv_at hl 0 rfl) ?_
          refine lv_ldc2 hx hb hown (hts (.constantLong RX1 53 4) (by decide +kernel)) dX1_second_w_95 ?_
          refine lv_ldiv hx hb dX1_second_w_98 (by decide) ?_
          refine lv_l2i (v := (z_4 / 4).toInt32) hx hb dX1_second_w_99 rfl ?_
          refine va_iald (cA := k_memory) (f := m_memory) hx hb hK hP 1 0 rfl rfl (i := (z_4 / 4).toInt32) (vs_1 ez_1 ez_2 eo_3 ez_4 c_84) dX1_second_w_100 ?_
          refine lv_topi (fun z_5 ez_5 => ?_)
          refine lv_istore (lv' := [(11, .int z_5), (9, .long z_4), (8, .int 1), (6, .long z_1), (0, .ref h0), (1, .long a0), (3, .int a1), (4, .int a2), (5, .int a3)]) hx hb dX1_second_w_101 hl (by decide) rfl (fun ls hl => ?_)
          refine lv_iload hx hb dX1_second_w_103 (lv_at hl 0 rfl) ?_
          refine cs_i (va_runS (As := [.int z_5]) (rest := []) ⟨hx, hb, hml, hown, hts⟩ (ctm_stands l H.size z_5) (va_cwS 1 hts gX1_second_w_X1_stands rfl rfl rfl (by decide +kernel) ⟨Nat.le_of_ble_eq_true rfl, Nat.le_of_ble_eq_true rfl⟩) ⟨fun a U g mk q => q, fun U hU hW => ⟨rfl, congrArg Array.size hU⟩⟩ rfl rfl hl.1 rfl (lv_room (Nat.le_of_ble_eq_true rfl)) dX1_second_w_105 ⟨Nat.zero_le _, Nat.zero_le _⟩) hA hP hS (fun H locs hP hS => ?_)
          refine lv_if_eq (tgt := 218) hx hb dX1_second_w_108 (by decide) (fun c_108 => ?_) (fun c_108 => ?_)
          · skip
            refine lv_iload hx hb dX1_second_w_218 (lv_at hl 0 rfl) ?_
            refine cs_i (va_runS (As := [.int z_5]) (rest := []) ⟨hx, hb, hml, hown, hts⟩ (ctm_stands l H.size z_5) (va_cwS 1 hts gX1_second_w_X1_stands rfl rfl rfl (by decide +kernel) ⟨Nat.le_of_ble_eq_true rfl, Nat.le_of_ble_eq_true rfl⟩) ⟨fun a U g mk q => q, fun U hU hW => ⟨rfl, congrArg Array.size hU⟩⟩ rfl rfl hl.1 rfl (lv_room (Nat.le_of_ble_eq_true rfl)) dX1_second_w_220 ⟨Nat.zero_le _, Nat.zero_le _⟩) hA hP hS (fun H locs hP hS => ?_)
            refine lv_if_eq (tgt := 255) hx hb dX1_second_w_223 (by decide) (fun c_223 => ?_) (fun c_223 => ?_)
            · skip
              refine lv_iconst (v := 0) hx hb dX1_second_w_255 (by decide) ?_
              refine lv_istore (lv' := [(8, .int 0), (11, .int z_5), (9, .long z_4), (6, .long z_1), (0, .ref h0), (1, .long a0), (3, .int a1), (4, .int a2), (5, .int a3)]) hx hb dX1_second_w_256 hl (by decide) rfl (fun ls hl => ?_)
              refine lv_iload hx hb dX1_second_w_258 (lv_at hl 1 rfl) ?_
              refine lv_bipush (v := 10) hx hb dX1_second_w_260 (by decide) ?_
              refine lv_iushr (v := jiushr z_5 10) hx hb dX1_second_w_262 rfl ?_
              refine lv_i2l (v := (jiushr z_5 10).toInt64) hx hb dX1_second_w_263 rfl ?_
              refine lv_bipush (v := 12) hx hb dX1_second_w_264 (by decide) ?_
              refine lv_lshl (v := jlshl ((jiushr z_5 10).toInt64) 12) hx hb dX1_second_w_266 rfl ?_
              refine lv_topl (fun z_6 ez_6 => ?_)
              refine lv_lstore (lv' := [(6, .long z_6), (8, .int 0), (11, .int z_5), (9, .long z_4), (0, .ref h0), (1, .long a0), (3, .int a1), (4, .int a2), (5, .int a3)]) hx hb dX1_second_w_267 hl (by decide) rfl (fun ls hl => ?_)
              refine lv_iinc (v := -1) (lv' := [(8, .int ((-1))), (6, .long z_6), (11, .int z_5), (9, .long z_4), (0, .ref h0), (1, .long a0), (3, .int a1), (4, .int a2), (5, .int a3)]) hx hb dX1_second_w_269 hl (k := 1) rfl (by decide) (by decide) rfl (fun ls hl => ?_)
              refine lv_goto (tgt := 31) hx hb dX1_second_w_272 (by decide) ?_
              refine lv_iload hx hb dX1_second_w_31 (lv_at hl 0 rfl) ?_
              refine lv_if_lt (tgt := 275) hx hb dX1_second_w_33 (by decide) (fun c_33b => ?_) (fun c_33b => ?_)
              · skip
                refine lv_aload_n hx hb dX1_second_w_275 rfl (lv_at hl 4 rfl) ?_
                refine lv_iload hx hb dX1_second_w_276 (lv_at hl 7 rfl) ?_
                refine lv_bipush (v := 20) hx hb dX1_second_w_278 (by decide) ?_
                refine lv_bipush (v := 21) hx hb dX1_second_w_280 (by decide) ?_
                refine lv_bipush (v := 23) hx hb dX1_second_w_282 (by decide) ?_
                refine cw_v (va_runV (As := [.int a2, .int 20, .int 21, .int 23]) (rest := []) ⟨hx, hb, hml, hown, hts⟩ (ctm_raise l dC dI h0 q_memory k_memory H.size v_atp v_vsAtp v_hgatp v_rights o_3.2 v_found v_wanted v_ofEntry m_memory a2 20 21 23) (cwV 4 hts gX1_second_w_X1_raise rfl rfl rfl (by decide +kernel) ⟨Nat.le_of_ble_eq_true rfl, Nat.le_of_ble_eq_true rfl⟩) ⟨fun a U g mk q => ⟨q.1, q.2.1, q.2.2.1, va_K.moved (u := U) (U := U.calling g mk a) (Vm.Alike.refl U.vm) q.2.2.2.1, q.2.2.2.2⟩, va_recv hK hP (ci := 1) (q0 := 0) rfl rfl, fun U hU hW => ⟨rfl, by rw [hU], by rw [hU]; exact hP, va_K.moved hW.alike hK, hD.weaken (fun _ _ _ _ => trivial)⟩⟩ rfl rfl hl.1 rfl (lv_room (Nat.le_of_ble_eq_true rfl)) dX1_second_w_284 ⟨Nat.zero_le _, Nat.zero_le _⟩) hA hD hP hS (fun o_7 H locs eo_7 hP hD hS => ?_)
                have hP : va_P (dC, dI) vwCl (wm h0 q_memory k_memory v_atp v_vsAtp v_hgatp v_rights o_7 v_found v_wanted v_ofEntry m_memory) H := hP
                have hD : va_D A (wm h0 q_memory k_memory v_atp v_vsAtp v_hgatp v_rights o_7 v_found v_wanted v_ofEntry m_memory) := hD
                refine lv_aload_n hx hb dX1_second_w_287 rfl (lv_at hl 4 rfl) ?_
                refine lv_lload_n hx hb dX1_second_w_288 rfl (lv_at hl 5 rfl) ?_
                refine va_put (D := (dC, dI)) (ci := 1) (v := .long a0) (ty := .long) (C := RX1) (T := TX1) (N := 9) hx hb hts hwX tyX1 tyX1_ok nmX1 hown hK hP hD hS 0 rfl rfl 7 (by decide) (hts (.fieldLink RX1 73 "StageWalkerModel" "wanted" "J") (by decide +kernel)) (fun _ h9 => h9) rfl (by decide +kernel) rfl rfl (Nat.le_of_ble_eq_true rfl) dX1_second_w_289 (fun H locs hP hD hS => ?_)
                have hP : va_P (dC, dI) vwCl (wm h0 q_memory k_memory v_atp v_vsAtp v_hgatp v_rights o_7 v_found a0 v_ofEntry m_memory) H := hP
                have hD : va_D A (wm h0 q_memory k_memory v_atp v_vsAtp v_hgatp v_rights o_7 v_found a0 v_ofEntry m_memory) := hD
                refine lv_aload_n hx hb dX1_second_w_292 rfl (lv_at hl 4 rfl) ?_
                refine lv_iload hx hb dX1_second_w_293 (lv_at hl 8 rfl) ?_
                refine va_put (D := (dC, dI)) (ci := 1) (v := .int a3) (ty := .boolean) (C := RX1) (T := TX1) (N := 9) hx hb hts hwX tyX1 tyX1_ok nmX1 hown hK hP hD hS 0 rfl rfl 8 (by decide) (hts (.fieldLink RX1 77 "StageWalkerModel" "ofEntry" "Z") (by decide +kernel)) (fun _ h9 => h9) rfl (by decide +kernel) (nb_z ha3) (fb_z ha3) (Nat.le_of_ble_eq_true rfl) dX1_second_w_295 (fun H locs hP hD hS => ?_)
                have hP : va_P (dC, dI) vwCl (wm h0 q_memory k_memory v_atp v_vsAtp v_hgatp v_rights o_7 v_found a0 a3 m_memory) H := hP
                have hD : va_D A (wm h0 q_memory k_memory v_atp v_vsAtp v_hgatp v_rights o_7 v_found a0 a3 m_memory) := hD
                refine lv_lconst (v := 0) hx hb dX1_second_w_298 (by decide) ?_
                exact W.lret (v := 0) hx hb hr (fun t ht hW => ⟨⟨_, (0, o_7, a0, a3), rfl, ⟨rfl, by subst eo_7; subst ez_6; subst ez_5; subst ez_4; subst eo_3; subst ez_2; subst ez_1; first | (rw [fm_second_w, if_pos c_4, if_pos c_84, if_pos c_108]; done) | (simp only [fm_second_w, if_pos c_4, if_pos c_84, if_pos c_108]; done) | (rw [fm_second_w, if_pos c_4, if_pos c_84, if_pos c_108] <;> rfl)⟩, by rw [ht]; exact hP, va_K.moved hW.alike hK, hD⟩, hS.F ht⟩) hS.2.2 dX1_second_w_299
              · skip
                exact absurd (by decide) c_33b
            · skip
              exact absurd c_108 c_223
          · skip
            refine lv_iload hx hb dX1_second_w_111 (lv_at hl 0 rfl) ?_
            refine cs_i (va_runS (As := [.int z_5]) (rest := []) ⟨hx, hb, hml, hown, hts⟩ (ctm_isLeaf l H.size z_5) (va_cwS 1 hts gX1_second_w_X1_isLeaf rfl rfl rfl (by decide +kernel) ⟨Nat.le_of_ble_eq_true rfl, Nat.le_of_ble_eq_true rfl⟩) ⟨fun a U g mk q => q, fun U hU hW => ⟨rfl, congrArg Array.size hU⟩⟩ rfl rfl hl.1 rfl (lv_room (Nat.le_of_ble_eq_true rfl)) dX1_second_w_113 ⟨Nat.zero_le _, Nat.zero_le _⟩) hA hP hS (fun H locs hP hS => ?_)
            refine lv_if_eq (tgt := 218) hx hb dX1_second_w_116 (by decide) (fun c_116 => ?_) (fun c_116 => ?_)
            · skip
              refine lv_iload hx hb dX1_second_w_218 (lv_at hl 0 rfl) ?_
              refine cs_i (va_runS (As := [.int z_5]) (rest := []) ⟨hx, hb, hml, hown, hts⟩ (ctm_stands l H.size z_5) (va_cwS 1 hts gX1_second_w_X1_stands rfl rfl rfl (by decide +kernel) ⟨Nat.le_of_ble_eq_true rfl, Nat.le_of_ble_eq_true rfl⟩) ⟨fun a U g mk q => q, fun U hU hW => ⟨rfl, congrArg Array.size hU⟩⟩ rfl rfl hl.1 rfl (lv_room (Nat.le_of_ble_eq_true rfl)) dX1_second_w_220 ⟨Nat.zero_le _, Nat.zero_le _⟩) hA hP hS (fun H locs hP hS => ?_)
              refine lv_if_eq (tgt := 255) hx hb dX1_second_w_223 (by decide) (fun c_223 => ?_) (fun c_223 => ?_)
              · skip
                exact absurd c_223 c_108
              · skip
                refine lv_iload hx hb dX1_second_w_226 (lv_at hl 0 rfl) ?_
                refine lv_iconst (v := 4) hx hb dX1_second_w_228 (by decide) ?_
                refine cs_i (va_runS (As := [.int z_5, .int 4]) (rest := []) ⟨hx, hb, hml, hown, hts⟩ (ctm_isSet l H.size z_5 4) (va_cwS 2 hts gX1_second_w_X1_isSet rfl rfl rfl (by decide +kernel) ⟨Nat.le_of_ble_eq_true rfl, Nat.le_of_ble_eq_true rfl⟩) ⟨fun a U g mk q => q, fun U hU hW => ⟨rfl, congrArg Array.size hU⟩⟩ rfl rfl hl.1 rfl (lv_room (Nat.le_of_ble_eq_true rfl)) dX1_second_w_229 ⟨Nat.zero_le _, Nat.zero_le _⟩) hA hP hS (fun H locs hP hS => ?_)
                refine lv_if_ne (tgt := 255) hx hb dX1_second_w_232 (by decide) (fun c_232 => ?_) (fun c_232 => ?_)
                · skip
                  refine lv_iconst (v := 0) hx hb dX1_second_w_255 (by decide) ?_
                  refine lv_istore (lv' := [(8, .int 0), (11, .int z_5), (9, .long z_4), (6, .long z_1), (0, .ref h0), (1, .long a0), (3, .int a1), (4, .int a2), (5, .int a3)]) hx hb dX1_second_w_256 hl (by decide) rfl (fun ls hl => ?_)
                  refine lv_iload hx hb dX1_second_w_258 (lv_at hl 1 rfl) ?_
                  refine lv_bipush (v := 10) hx hb dX1_second_w_260 (by decide) ?_
                  refine lv_iushr (v := jiushr z_5 10) hx hb dX1_second_w_262 rfl ?_
                  refine lv_i2l (v := (jiushr z_5 10).toInt64) hx hb dX1_second_w_263 rfl ?_
                  refine lv_bipush (v := 12) hx hb dX1_second_w_264 (by decide) ?_
                  refine lv_lshl (v := jlshl ((jiushr z_5 10).toInt64) 12) hx hb dX1_second_w_266 rfl ?_
                  refine lv_topl (fun z_8 ez_8 => ?_)
                  refine lv_lstore (lv' := [(6, .long z_8), (8, .int 0), (11, .int z_5), (9, .long z_4), (0, .ref h0), (1, .long a0), (3, .int a1), (4, .int a2), (5, .int a3)]) hx hb dX1_second_w_267 hl (by decide) rfl (fun ls hl => ?_)
                  refine lv_iinc (v := -1) (lv' := [(8, .int ((-1))), (6, .long z_8), (11, .int z_5), (9, .long z_4), (0, .ref h0), (1, .long a0), (3, .int a1), (4, .int a2), (5, .int a3)]) hx hb dX1_second_w_269 hl (k := 1) rfl (by decide) (by decide) rfl (fun ls hl => ?_)
                  refine lv_goto (tgt := 31) hx hb dX1_second_w_272 (by decide) ?_
                  refine lv_iload hx hb dX1_second_w_31 (lv_at hl 0 rfl) ?_
                  refine lv_if_lt (tgt := 275) hx hb dX1_second_w_33 (by decide) (fun c_33b => ?_) (fun c_33b => ?_)
                  · skip
                    refine lv_aload_n hx hb dX1_second_w_275 rfl (lv_at hl 4 rfl) ?_
                    refine lv_iload hx hb dX1_second_w_276 (lv_at hl 7 rfl) ?_
                    refine lv_bipush (v := 20) hx hb dX1_second_w_278 (by decide) ?_
                    refine lv_bipush (v := 21) hx hb dX1_second_w_280 (by decide) ?_
                    refine lv_bipush (v := 23) hx hb dX1_second_w_282 (by decide) ?_
                    refine cw_v (va_runV (As := [.int a2, .int 20, .int 21, .int 23]) (rest := []) ⟨hx, hb, hml, hown, hts⟩ (ctm_raise l dC dI h0 q_memory k_memory H.size v_atp v_vsAtp v_hgatp v_rights o_3.2 v_found v_wanted v_ofEntry m_memory a2 20 21 23) (cwV 4 hts gX1_second_w_X1_raise rfl rfl rfl (by decide +kernel) ⟨Nat.le_of_ble_eq_true rfl, Nat.le_of_ble_eq_true rfl⟩) ⟨fun a U g mk q => ⟨q.1, q.2.1, q.2.2.1, va_K.moved (u := U) (U := U.calling g mk a) (Vm.Alike.refl U.vm) q.2.2.2.1, q.2.2.2.2⟩, va_recv hK hP (ci := 1) (q0 := 0) rfl rfl, fun U hU hW => ⟨rfl, by rw [hU], by rw [hU]; exact hP, va_K.moved hW.alike hK, hD.weaken (fun _ _ _ _ => trivial)⟩⟩ rfl rfl hl.1 rfl (lv_room (Nat.le_of_ble_eq_true rfl)) dX1_second_w_284 ⟨Nat.zero_le _, Nat.zero_le _⟩) hA hD hP hS (fun o_9 H locs eo_9 hP hD hS => ?_)
                    have hP : va_P (dC, dI) vwCl (wm h0 q_memory k_memory v_atp v_vsAtp v_hgatp v_rights o_9 v_found v_wanted v_ofEntry m_memory) H := hP
                    have hD : va_D A (wm h0 q_memory k_memory v_atp v_vsAtp v_hgatp v_rights o_9 v_found v_wanted v_ofEntry m_memory) := hD
                    refine lv_aload_n hx hb dX1_second_w_287 rfl (lv_at hl 4 rfl) ?_
                    refine lv_lload_n hx hb dX1_second_w_288 rfl (lv_at hl 5 rfl) ?_
                    refine va_put (D := (dC, dI)) (ci := 1) (v := .long a0) (ty := .long) (C := RX1) (T := TX1) (N := 9) hx hb hts hwX tyX1 tyX1_ok nmX1 hown hK hP hD hS 0 rfl rfl 7 (by decide) (hts (.fieldLink RX1 73 "StageWalkerModel" "wanted" "J") (by decide +kernel)) (fun _ h9 => h9) rfl (by decide +kernel) rfl rfl (Nat.le_of_ble_eq_true rfl) dX1_second_w_289 (fun H locs hP hD hS => ?_)
                    have hP : va_P (dC, dI) vwCl (wm h0 q_memory k_memory v_atp v_vsAtp v_hgatp v_rights o_9 v_found a0 v_ofEntry m_memory) H := hP
                    have hD : va_D A (wm h0 q_memory k_memory v_atp v_vsAtp v_hgatp v_rights o_9 v_found a0 v_ofEntry m_memory) := hD
                    refine lv_aload_n hx hb dX1_second_w_292 rfl (lv_at hl 4 rfl) ?_
                    refine lv_iload hx hb dX1_second_w_293 (lv_at hl 8 rfl) ?_
                    refine va_put (D := (dC, dI)) (ci := 1) (v := .int a3) (ty := .boolean) (C := RX1) (T := TX1) (N := 9) hx hb hts hwX tyX1 tyX1_ok nmX1 hown hK hP hD hS 0 rfl rfl 8 (by decide) (hts (.fieldLink RX1 77 "StageWalkerModel" "ofEntry" "Z") (by decide +kernel)) (fun _ h9 => h9) rfl (by decide +kernel) (nb_z ha3) (fb_z ha3) (Nat.le_of_ble_eq_true rfl) dX1_second_w_295 (fun H locs hP hD hS => ?_)
                    have hP : va_P (dC, dI) vwCl (wm h0 q_memory k_memory v_atp v_vsAtp v_hgatp v_rights o_9 v_found a0 a3 m_memory) H := hP
                    have hD : va_D A (wm h0 q_memory k_memory v_atp v_vsAtp v_hgatp v_rights o_9 v_found a0 a3 m_memory) := hD
                    refine lv_lconst (v := 0) hx hb dX1_second_w_298 (by decide) ?_
                    exact W.lret (v := 0) hx hb hr (fun t ht hW => ⟨⟨_, (0, o_9, a0, a3), rfl, ⟨rfl, by subst eo_9; subst ez_8; subst ez_5; subst ez_4; subst eo_3; subst ez_2; subst ez_1; first | (rw [fm_second_w, if_pos c_4, if_pos c_84, if_neg c_108, if_pos c_116, if_neg c_232]; done) | (simp only [fm_second_w, if_pos c_4, if_pos c_84, if_neg c_108, if_pos c_116, if_neg c_232]; done) | (rw [fm_second_w, if_pos c_4, if_pos c_84, if_neg c_108, if_pos c_116, if_neg c_232] <;> rfl)⟩, by rw [ht]; exact hP, va_K.moved hW.alike hK, hD⟩, hS.F ht⟩) hS.2.2 dX1_second_w_299
                  · skip
                    exact absurd (by decide) c_33b
                · skip
                  refine lv_iload hx hb dX1_second_w_235 (lv_at hl 0 rfl) ?_
                  refine lv_bipush (v := 6) hx hb dX1_second_w_237 (by decide) ?_
                  refine cs_i (va_runS (As := [.int z_5, .int 6]) (rest := []) ⟨hx, hb, hml, hown, hts⟩ (ctm_isSet l H.size z_5 6) (va_cwS 2 hts gX1_second_w_X1_isSet rfl rfl rfl (by decide +kernel) ⟨Nat.le_of_ble_eq_true rfl, Nat.le_of_ble_eq_true rfl⟩) ⟨fun a U g mk q => q, fun U hU hW => ⟨rfl, congrArg Array.size hU⟩⟩ rfl rfl hl.1 rfl (lv_room (Nat.le_of_ble_eq_true rfl)) dX1_second_w_239 ⟨Nat.zero_le _, Nat.zero_le _⟩) hA hP hS (fun H locs hP hS => ?_)
                  refine lv_if_ne (tgt := 255) hx hb dX1_second_w_242 (by decide) (fun c_242 => ?_) (fun c_242 => ?_)
                  · skip
                    refine lv_iconst (v := 0) hx hb dX1_second_w_255 (by decide) ?_
                    refine lv_istore (lv' := [(8, .int 0), (11, .int z_5), (9, .long z_4), (6, .long z_1), (0, .ref h0), (1, .long a0), (3, .int a1), (4, .int a2), (5, .int a3)]) hx hb dX1_second_w_256 hl (by decide) rfl (fun ls hl => ?_)
                    refine lv_iload hx hb dX1_second_w_258 (lv_at hl 1 rfl) ?_
                    refine lv_bipush (v := 10) hx hb dX1_second_w_260 (by decide) ?_
                    refine lv_iushr (v := jiushr z_5 10) hx hb dX1_second_w_262 rfl ?_
                    refine lv_i2l (v := (jiushr z_5 10).toInt64) hx hb dX1_second_w_263 rfl ?_
                    refine lv_bipush (v := 12) hx hb dX1_second_w_264 (by decide) ?_
                    refine lv_lshl (v := jlshl ((jiushr z_5 10).toInt64) 12) hx hb dX1_second_w_266 rfl ?_
                    refine lv_topl (fun z_10 ez_10 => ?_)
                    refine lv_lstore (lv' := [(6, .long z_10), (8, .int 0), (11, .int z_5), (9, .long z_4), (0, .ref h0), (1, .long a0), (3, .int a1), (4, .int a2), (5, .int a3)]) hx hb dX1_second_w_267 hl (by decide) rfl (fun ls hl => ?_)
                    refine lv_iinc (v := -1) (lv' := [(8, .int ((-1))), (6, .long z_10), (11, .int z_5), (9, .long z_4), (0, .ref h0), (1, .long a0), (3, .int a1), (4, .int a2), (5, .int a3)]) hx hb dX1_second_w_269 hl (k := 1) rfl (by decide) (by decide) rfl (fun ls hl => ?_)
                    refine lv_goto (tgt := 31) hx hb dX1_second_w_272 (by decide) ?_
                    refine lv_iload hx hb dX1_second_w_31 (lv_at hl 0 rfl) ?_
                    refine lv_if_lt (tgt := 275) hx hb dX1_second_w_33 (by decide) (fun c_33b => ?_) (fun c_33b => ?_)
                    · skip
                      refine lv_aload_n hx hb dX1_second_w_275 rfl (lv_at hl 4 rfl) ?_
                      refine lv_iload hx hb dX1_second_w_276 (lv_at hl 7 rfl) ?_
                      refine lv_bipush (v := 20) hx hb dX1_second_w_278 (by decide) ?_
                      refine lv_bipush (v := 21) hx hb dX1_second_w_280 (by decide) ?_
                      refine lv_bipush (v := 23) hx hb dX1_second_w_282 (by decide) ?_
                      refine cw_v (va_runV (As := [.int a2, .int 20, .int 21, .int 23]) (rest := []) ⟨hx, hb, hml, hown, hts⟩ (ctm_raise l dC dI h0 q_memory k_memory H.size v_atp v_vsAtp v_hgatp v_rights o_3.2 v_found v_wanted v_ofEntry m_memory a2 20 21 23) (cwV 4 hts gX1_second_w_X1_raise rfl rfl rfl (by decide +kernel) ⟨Nat.le_of_ble_eq_true rfl, Nat.le_of_ble_eq_true rfl⟩) ⟨fun a U g mk q => ⟨q.1, q.2.1, q.2.2.1, va_K.moved (u := U) (U := U.calling g mk a) (Vm.Alike.refl U.vm) q.2.2.2.1, q.2.2.2.2⟩, va_recv hK hP (ci := 1) (q0 := 0) rfl rfl, fun U hU hW => ⟨rfl, by rw [hU], by rw [hU]; exact hP, va_K.moved hW.alike hK, hD.weaken (fun _ _ _ _ => trivial)⟩⟩ rfl rfl hl.1 rfl (lv_room (Nat.le_of_ble_eq_true rfl)) dX1_second_w_284 ⟨Nat.zero_le _, Nat.zero_le _⟩) hA hD hP hS (fun o_11 H locs eo_11 hP hD hS => ?_)
                      have hP : va_P (dC, dI) vwCl (wm h0 q_memory k_memory v_atp v_vsAtp v_hgatp v_rights o_11 v_found v_wanted v_ofEntry m_memory) H := hP
                      have hD : va_D A (wm h0 q_memory k_memory v_atp v_vsAtp v_hgatp v_rights o_11 v_found v_wanted v_ofEntry m_memory) := hD
                      refine lv_aload_n hx hb dX1_second_w_287 rfl (lv_at hl 4 rfl) ?_
                      refine lv_lload_n hx hb dX1_second_w_288 rfl (lv_at hl 5 rfl) ?_
                      refine va_put (D := (dC, dI)) (ci := 1) (v := .long a0) (ty := .long) (C := RX1) (T := TX1) (N := 9) hx hb hts hwX tyX1 tyX1_ok nmX1 hown hK hP hD hS 0 rfl rfl 7 (by decide) (hts (.fieldLink RX1 73 "StageWalkerModel" "wanted" "J") (by decide +kernel)) (fun _ h9 => h9) rfl (by decide +kernel) rfl rfl (Nat.le_of_ble_eq_true rfl) dX1_second_w_289 (fun H locs hP hD hS => ?_)
                      have hP : va_P (dC, dI) vwCl (wm h0 q_memory k_memory v_atp v_vsAtp v_hgatp v_rights o_11 v_found a0 v_ofEntry m_memory) H := hP
                      have hD : va_D A (wm h0 q_memory k_memory v_atp v_vsAtp v_hgatp v_rights o_11 v_found a0 v_ofEntry m_memory) := hD
                      refine lv_aload_n hx hb dX1_second_w_292 rfl (lv_at hl 4 rfl) ?_
                      refine lv_iload hx hb dX1_second_w_293 (lv_at hl 8 rfl) ?_
                      refine va_put (D := (dC, dI)) (ci := 1) (v := .int a3) (ty := .boolean) (C := RX1) (T := TX1) (N := 9) hx hb hts hwX tyX1 tyX1_ok nmX1 hown hK hP hD hS 0 rfl rfl 8 (by decide) (hts (.fieldLink RX1 77 "StageWalkerModel" "ofEntry" "Z") (by decide +kernel)) (fun _ h9 => h9) rfl (by decide +kernel) (nb_z ha3) (fb_z ha3) (Nat.le_of_ble_eq_true rfl) dX1_second_w_295 (fun H locs hP hD hS => ?_)
                      have hP : va_P (dC, dI) vwCl (wm h0 q_memory k_memory v_atp v_vsAtp v_hgatp v_rights o_11 v_found a0 a3 m_memory) H := hP
                      have hD : va_D A (wm h0 q_memory k_memory v_atp v_vsAtp v_hgatp v_rights o_11 v_found a0 a3 m_memory) := hD
                      refine lv_lconst (v := 0) hx hb dX1_second_w_298 (by decide) ?_
                      exact W.lret (v := 0) hx hb hr (fun t ht hW => ⟨⟨_, (0, o_11, a0, a3), rfl, ⟨rfl, by subst eo_11; subst ez_10; subst ez_5; subst ez_4; subst eo_3; subst ez_2; subst ez_1; first | (rw [fm_second_w, if_pos c_4, if_pos c_84, if_neg c_108, if_pos c_116, if_pos c_232, if_neg c_242]; done) | (simp only [fm_second_w, if_pos c_4, if_pos c_84, if_neg c_108, if_pos c_116, if_pos c_232, if_neg c_242]; done) | (rw [fm_second_w, if_pos c_4, if_pos c_84, if_neg c_108, if_pos c_116, if_pos c_232, if_neg c_242] <;> rfl)⟩, by rw [ht]; exact hP, va_K.moved hW.alike hK, hD⟩, hS.F ht⟩) hS.2.2 dX1_second_w_299
                    · skip
                      exact absurd (by decide) c_33b
                  · skip
                    refine lv_iload hx hb dX1_second_w_245 (lv_at hl 0 rfl) ?_
                    refine lv_bipush (v := 7) hx hb dX1_second_w_247 (by decide) ?_
                    refine cs_i (va_runS (As := [.int z_5, .int 7]) (rest := []) ⟨hx, hb, hml, hown, hts⟩ (ctm_isSet l H.size z_5 7) (va_cwS 2 hts gX1_second_w_X1_isSet rfl rfl rfl (by decide +kernel) ⟨Nat.le_of_ble_eq_true rfl, Nat.le_of_ble_eq_true rfl⟩) ⟨fun a U g mk q => q, fun U hU hW => ⟨rfl, congrArg Array.size hU⟩⟩ rfl rfl hl.1 rfl (lv_room (Nat.le_of_ble_eq_true rfl)) dX1_second_w_249 ⟨Nat.zero_le _, Nat.zero_le _⟩) hA hP hS (fun H locs hP hS => ?_)
                    refine lv_if_eq (tgt := 258) hx hb dX1_second_w_252 (by decide) (fun c_252 => ?_) (fun c_252 => ?_)
                    · skip
                      refine lv_iload hx hb dX1_second_w_258 (lv_at hl 0 rfl) ?_
                      refine lv_bipush (v := 10) hx hb dX1_second_w_260 (by decide) ?_
                      refine lv_iushr (v := jiushr z_5 10) hx hb dX1_second_w_262 rfl ?_
                      refine lv_i2l (v := (jiushr z_5 10).toInt64) hx hb dX1_second_w_263 rfl ?_
                      refine lv_bipush (v := 12) hx hb dX1_second_w_264 (by decide) ?_
                      refine lv_lshl (v := jlshl ((jiushr z_5 10).toInt64) 12) hx hb dX1_second_w_266 rfl ?_
                      refine lv_topl (fun z_12 ez_12 => ?_)
                      refine lv_lstore (lv' := [(6, .long z_12), (11, .int z_5), (9, .long z_4), (8, .int 1), (0, .ref h0), (1, .long a0), (3, .int a1), (4, .int a2), (5, .int a3)]) hx hb dX1_second_w_267 hl (by decide) rfl (fun ls hl => ?_)
                      refine lv_iinc (v := 0) (lv' := [(8, .int 0), (6, .long z_12), (11, .int z_5), (9, .long z_4), (0, .ref h0), (1, .long a0), (3, .int a1), (4, .int a2), (5, .int a3)]) hx hb dX1_second_w_269 hl (k := 3) rfl (by decide) (by decide) rfl (fun ls hl => ?_)
                      refine lv_goto (tgt := 31) hx hb dX1_second_w_272 (by decide) ?_
                      refine lv_iload hx hb dX1_second_w_31 (lv_at hl 0 rfl) ?_
                      refine lv_if_lt (tgt := 275) hx hb dX1_second_w_33 (by decide) (fun c_33b => ?_) (fun c_33b => ?_)
                      · skip
                        exact absurd c_33b (by decide)
                      · skip
                        refine lv_lload hx hb dX1_second_w_36 (lv_at hl 1 rfl) ?_
                        refine lv_ldc2 hx hb hown (hts (.constantLong RX1 53 4) (by decide +kernel)) dX1_second_w_38 ?_
                        refine lv_iload hx hb dX1_second_w_41 (lv_at hl 0 rfl) ?_
                        refine lv_iconst (v := 1) hx hb dX1_second_w_43 (by decide) ?_
                        refine lv_icmp_ne (tgt := 58) hx hb dX1_second_w_44 (by decide) (fun c_44b => ?_) (fun c_44b => ?_)
                        · skip
                          refine lv_lload_n hx hb dX1_second_w_58 rfl (lv_at hl 5 rfl) ?_
                          refine lv_bipush (v := 12) hx hb dX1_second_w_59 (by decide) ?_
                          refine lv_lshr (v := jlshr a0 12) hx hb dX1_second_w_61 rfl ?_
                          refine lv_ldc2 hx hb hown (hts (.constantLong RX1 44 1023) (by decide +kernel)) dX1_second_w_62 ?_
                          refine lv_land hx hb dX1_second_w_65 ?_
                          refine lv_lmul hx hb dX1_second_w_66 ?_
                          refine lv_ladd hx hb dX1_second_w_67 ?_
                          refine lv_topl (fun z_13 ez_13 => ?_)
                          refine lv_lstore (lv' := [(9, .long z_13), (8, .int 0), (6, .long z_12), (11, .int z_5), (0, .ref h0), (1, .long a0), (3, .int a1), (4, .int a2), (5, .int a3)]) hx hb dX1_second_w_68 hl (by decide) rfl (fun ls hl => ?_)
                          refine lv_aload_n hx hb dX1_second_w_70 rfl (lv_at hl 4 rfl) ?_
                          refine lv_iload hx hb dX1_second_w_71 (lv_at hl 7 rfl) ?_
                          refine lv_lload hx hb dX1_second_w_73 (lv_at hl 0 rfl) ?_
                          refine cw_l (va_runV (As := [.int a2, .long z_13]) (rest := []) ⟨hx, hb, hml, hown, hts⟩ (ctm_inMemory l dC dI h0 q_memory k_memory H.size v_atp v_vsAtp v_hgatp v_rights o_3.2 v_found v_wanted v_ofEntry m_memory a2 z_13) (cwV 2 hts gX1_second_w_X1_inMemory rfl rfl rfl (by decide +kernel) ⟨Nat.le_of_ble_eq_true rfl, Nat.le_of_ble_eq_true rfl⟩) ⟨fun a U g mk q => ⟨q.1, q.2.1, q.2.2.1, va_K.moved (u := U) (U := U.calling g mk a) (Vm.Alike.refl U.vm) q.2.2.2.1, q.2.2.2.2⟩, va_recv hK hP (ci := 1) (q0 := 0) rfl rfl, fun U hU hW => ⟨rfl, by rw [hU], by rw [hU]; exact hP, va_K.moved hW.alike hK, hD.weaken (fun _ _ _ _ => trivial)⟩⟩ rfl rfl hl.1 rfl (lv_room (Nat.le_of_ble_eq_true rfl)) dX1_second_w_75 ⟨Nat.zero_le _, Nat.zero_le _⟩) hA hD hP hS (fun o_14 H locs eo_14 hP hD hS => ?_)
                          have hP : va_P (dC, dI) vwCl (wm h0 q_memory k_memory v_atp v_vsAtp v_hgatp v_rights o_14.2 v_found v_wanted v_ofEntry m_memory) H := hP
                          have hD : va_D A (wm h0 q_memory k_memory v_atp v_vsAtp v_hgatp v_rights o_14.2 v_found v_wanted v_ofEntry m_memory) := hD
                          refine lv_topl (fun z_15 ez_15 => ?_)
                          refine lv_lstore (lv' := [(9, .long z_15), (8, .int 0), (6, .long z_12), (11, .int z_5), (0, .ref h0), (1, .long a0), (3, .int a1), (4, .int a2), (5, .int a3)]) hx hb dX1_second_w_78 hl (by decide) rfl (fun ls hl => ?_)
                          refine lv_aload_n hx hb dX1_second_w_80 rfl (lv_at hl 4 rfl) ?_
                          refine va_get (D := (dC, dI)) (ci := 1) (v := .int o_14.2) (C := RX1) (T := TX1) (N := 9) hx hb hts hwX hown hK hP 0 rfl rfl 5 (by decide) (hts (.fieldLink RX1 14 "StageWalkerModel" "code" "I") (by decide +kernel)) (fun _ h9 => h9) rfl dX1_second_w_81 ?_
                          refine lv_if_eq (tgt := 89) hx hb dX1_second_w_84 (by decide) (fun c_84b => ?_) (fun c_84b => ?_)
                          · skip
                            refine lv_aload_n hx hb dX1_second_w_89 rfl (lv_at hl 4 rfl) ?_
                            refine va_get (D := (dC, dI)) (ci := 1) (v := .ref q_memory) (C := RX1) (T := TX1) (N := 9) hx hb hts hwX hown hK hP 0 rfl rfl 0 (by decide) (hts (.fieldLink RX1 8 "StageWalkerModel" "memory" "[I") (by decide +kernel)) (fun _ h9 => h9) rfl dX1_second_w_90 ?_
                            refine lv_lload hx hb dX1_second_w_93 (lv_at hl 0 rfl) ?_
                            refine lv_ldc2 hx hb hown (hts (.constantLong RX1 53 4) (by decide +kernel)) dX1_second_w_95 ?_
                            refine lv_ldiv hx hb dX1_second_w_98 (by decide) ?_
                            refine lv_l2i (v := (z_15 / 4).toInt32) hx hb dX1_second_w_99 rfl ?_
                            refine va_iald (cA := k_memory) (f := m_memory) hx hb hK hP 1 0 rfl rfl (i := (z_15 / 4).toInt32) (vs_0 ez_12 ez_13 eo_14 ez_15 c_84b) dX1_second_w_100 ?_
                            refine lv_topi (fun z_16 ez_16 => ?_)
                            refine lv_istore (lv' := [(11, .int z_16), (9, .long z_15), (8, .int 0), (6, .long z_12), (0, .ref h0), (1, .long a0), (3, .int a1), (4, .int a2), (5, .int a3)]) hx hb dX1_second_w_101 hl (by decide) rfl (fun ls hl => ?_)
                            refine lv_iload hx hb dX1_second_w_103 (lv_at hl 0 rfl) ?_
                            refine cs_i (va_runS (As := [.int z_16]) (rest := []) ⟨hx, hb, hml, hown, hts⟩ (ctm_stands l H.size z_16) (va_cwS 1 hts gX1_second_w_X1_stands rfl rfl rfl (by decide +kernel) ⟨Nat.le_of_ble_eq_true rfl, Nat.le_of_ble_eq_true rfl⟩) ⟨fun a U g mk q => q, fun U hU hW => ⟨rfl, congrArg Array.size hU⟩⟩ rfl rfl hl.1 rfl (lv_room (Nat.le_of_ble_eq_true rfl)) dX1_second_w_105 ⟨Nat.zero_le _, Nat.zero_le _⟩) hA hP hS (fun H locs hP hS => ?_)
                            refine lv_if_eq (tgt := 218) hx hb dX1_second_w_108 (by decide) (fun c_108b => ?_) (fun c_108b => ?_)
                            · skip
                              refine lv_iload hx hb dX1_second_w_218 (lv_at hl 0 rfl) ?_
                              refine cs_i (va_runS (As := [.int z_16]) (rest := []) ⟨hx, hb, hml, hown, hts⟩ (ctm_stands l H.size z_16) (va_cwS 1 hts gX1_second_w_X1_stands rfl rfl rfl (by decide +kernel) ⟨Nat.le_of_ble_eq_true rfl, Nat.le_of_ble_eq_true rfl⟩) ⟨fun a U g mk q => q, fun U hU hW => ⟨rfl, congrArg Array.size hU⟩⟩ rfl rfl hl.1 rfl (lv_room (Nat.le_of_ble_eq_true rfl)) dX1_second_w_220 ⟨Nat.zero_le _, Nat.zero_le _⟩) hA hP hS (fun H locs hP hS => ?_)
                              refine lv_if_eq (tgt := 255) hx hb dX1_second_w_223 (by decide) (fun c_223b => ?_) (fun c_223b => ?_)
                              · skip
                                refine lv_iconst (v := 0) hx hb dX1_second_w_255 (by decide) ?_
                                refine lv_istore (lv' := [(8, .int 0), (11, .int z_16), (9, .long z_15), (6, .long z_12), (0, .ref h0), (1, .long a0), (3, .int a1), (4, .int a2), (5, .int a3)]) hx hb dX1_second_w_256 hl (by decide) rfl (fun ls hl => ?_)
                                refine lv_iload hx hb dX1_second_w_258 (lv_at hl 1 rfl) ?_
                                refine lv_bipush (v := 10) hx hb dX1_second_w_260 (by decide) ?_
                                refine lv_iushr (v := jiushr z_16 10) hx hb dX1_second_w_262 rfl ?_
                                refine lv_i2l (v := (jiushr z_16 10).toInt64) hx hb dX1_second_w_263 rfl ?_
                                refine lv_bipush (v := 12) hx hb dX1_second_w_264 (by decide) ?_
                                refine lv_lshl (v := jlshl ((jiushr z_16 10).toInt64) 12) hx hb dX1_second_w_266 rfl ?_
                                refine lv_topl (fun z_17 ez_17 => ?_)
                                refine lv_lstore (lv' := [(6, .long z_17), (8, .int 0), (11, .int z_16), (9, .long z_15), (0, .ref h0), (1, .long a0), (3, .int a1), (4, .int a2), (5, .int a3)]) hx hb dX1_second_w_267 hl (by decide) rfl (fun ls hl => ?_)
                                refine lv_iinc (v := -1) (lv' := [(8, .int ((-1))), (6, .long z_17), (11, .int z_16), (9, .long z_15), (0, .ref h0), (1, .long a0), (3, .int a1), (4, .int a2), (5, .int a3)]) hx hb dX1_second_w_269 hl (k := 1) rfl (by decide) (by decide) rfl (fun ls hl => ?_)
                                refine lv_goto (tgt := 31) hx hb dX1_second_w_272 (by decide) ?_
                                refine lv_iload hx hb dX1_second_w_31 (lv_at hl 0 rfl) ?_
                                refine lv_if_lt (tgt := 275) hx hb dX1_second_w_33 (by decide) (fun c_33bb => ?_) (fun c_33bb => ?_)
                                · skip
                                  refine lv_aload_n hx hb dX1_second_w_275 rfl (lv_at hl 4 rfl) ?_
                                  refine lv_iload hx hb dX1_second_w_276 (lv_at hl 7 rfl) ?_
                                  refine lv_bipush (v := 20) hx hb dX1_second_w_278 (by decide) ?_
                                  refine lv_bipush (v := 21) hx hb dX1_second_w_280 (by decide) ?_
                                  refine lv_bipush (v := 23) hx hb dX1_second_w_282 (by decide) ?_
                                  refine cw_v (va_runV (As := [.int a2, .int 20, .int 21, .int 23]) (rest := []) ⟨hx, hb, hml, hown, hts⟩ (ctm_raise l dC dI h0 q_memory k_memory H.size v_atp v_vsAtp v_hgatp v_rights o_14.2 v_found v_wanted v_ofEntry m_memory a2 20 21 23) (cwV 4 hts gX1_second_w_X1_raise rfl rfl rfl (by decide +kernel) ⟨Nat.le_of_ble_eq_true rfl, Nat.le_of_ble_eq_true rfl⟩) ⟨fun a U g mk q => ⟨q.1, q.2.1, q.2.2.1, va_K.moved (u := U) (U := U.calling g mk a) (Vm.Alike.refl U.vm) q.2.2.2.1, q.2.2.2.2⟩, va_recv hK hP (ci := 1) (q0 := 0) rfl rfl, fun U hU hW => ⟨rfl, by rw [hU], by rw [hU]; exact hP, va_K.moved hW.alike hK, hD.weaken (fun _ _ _ _ => trivial)⟩⟩ rfl rfl hl.1 rfl (lv_room (Nat.le_of_ble_eq_true rfl)) dX1_second_w_284 ⟨Nat.zero_le _, Nat.zero_le _⟩) hA hD hP hS (fun o_18 H locs eo_18 hP hD hS => ?_)
                                  have hP : va_P (dC, dI) vwCl (wm h0 q_memory k_memory v_atp v_vsAtp v_hgatp v_rights o_18 v_found v_wanted v_ofEntry m_memory) H := hP
                                  have hD : va_D A (wm h0 q_memory k_memory v_atp v_vsAtp v_hgatp v_rights o_18 v_found v_wanted v_ofEntry m_memory) := hD
                                  refine lv_aload_n hx hb dX1_second_w_287 rfl (lv_at hl 4 rfl) ?_
                                  refine lv_lload_n hx hb dX1_second_w_288 rfl (lv_at hl 5 rfl) ?_
                                  refine va_put (D := (dC, dI)) (ci := 1) (v := .long a0) (ty := .long) (C := RX1) (T := TX1) (N := 9) hx hb hts hwX tyX1 tyX1_ok nmX1 hown hK hP hD hS 0 rfl rfl 7 (by decide) (hts (.fieldLink RX1 73 "StageWalkerModel" "wanted" "J") (by decide +kernel)) (fun _ h9 => h9) rfl (by decide +kernel) rfl rfl (Nat.le_of_ble_eq_true rfl) dX1_second_w_289 (fun H locs hP hD hS => ?_)
                                  have hP : va_P (dC, dI) vwCl (wm h0 q_memory k_memory v_atp v_vsAtp v_hgatp v_rights o_18 v_found a0 v_ofEntry m_memory) H := hP
                                  have hD : va_D A (wm h0 q_memory k_memory v_atp v_vsAtp v_hgatp v_rights o_18 v_found a0 v_ofEntry m_memory) := hD
                                  refine lv_aload_n hx hb dX1_second_w_292 rfl (lv_at hl 4 rfl) ?_
                                  refine lv_iload hx hb dX1_second_w_293 (lv_at hl 8 rfl) ?_
                                  refine va_put (D := (dC, dI)) (ci := 1) (v := .int a3) (ty := .boolean) (C := RX1) (T := TX1) (N := 9) hx hb hts hwX tyX1 tyX1_ok nmX1 hown hK hP hD hS 0 rfl rfl 8 (by decide) (hts (.fieldLink RX1 77 "StageWalkerModel" "ofEntry" "Z") (by decide +kernel)) (fun _ h9 => h9) rfl (by decide +kernel) (nb_z ha3) (fb_z ha3) (Nat.le_of_ble_eq_true rfl) dX1_second_w_295 (fun H locs hP hD hS => ?_)
                                  have hP : va_P (dC, dI) vwCl (wm h0 q_memory k_memory v_atp v_vsAtp v_hgatp v_rights o_18 v_found a0 a3 m_memory) H := hP
                                  have hD : va_D A (wm h0 q_memory k_memory v_atp v_vsAtp v_hgatp v_rights o_18 v_found a0 a3 m_memory) := hD
                                  refine lv_lconst (v := 0) hx hb dX1_second_w_298 (by decide) ?_
                                  exact W.lret (v := 0) hx hb hr (fun t ht hW => ⟨⟨_, (0, o_18, a0, a3), rfl, ⟨rfl, by subst eo_18; subst ez_17; subst ez_16; subst ez_15; subst eo_14; subst ez_13; subst ez_12; subst ez_5; subst ez_4; subst eo_3; subst ez_2; subst ez_1; first | (rw [fm_second_w, if_pos c_4, if_pos c_84, if_neg c_108, if_pos c_116, if_pos c_232, if_pos c_242, if_pos c_252, if_pos c_84b, if_pos c_108b]; done) | (simp only [fm_second_w, if_pos c_4, if_pos c_84, if_neg c_108, if_pos c_116, if_pos c_232, if_pos c_242, if_pos c_252, if_pos c_84b, if_pos c_108b]; done) | (rw [fm_second_w, if_pos c_4, if_pos c_84, if_neg c_108, if_pos c_116, if_pos c_232, if_pos c_242, if_pos c_252, if_pos c_84b, if_pos c_108b] <;> rfl)⟩, by rw [ht]; exact hP, va_K.moved hW.alike hK, hD⟩, hS.F ht⟩) hS.2.2 dX1_second_w_299
                                · skip
                                  exact absurd (by decide) c_33bb
                              · skip
                                exact absurd c_108b c_223b
                            · skip
                              refine lv_iload hx hb dX1_second_w_111 (lv_at hl 0 rfl) ?_
                              refine cs_i (va_runS (As := [.int z_16]) (rest := []) ⟨hx, hb, hml, hown, hts⟩ (ctm_isLeaf l H.size z_16) (va_cwS 1 hts gX1_second_w_X1_isLeaf rfl rfl rfl (by decide +kernel) ⟨Nat.le_of_ble_eq_true rfl, Nat.le_of_ble_eq_true rfl⟩) ⟨fun a U g mk q => q, fun U hU hW => ⟨rfl, congrArg Array.size hU⟩⟩ rfl rfl hl.1 rfl (lv_room (Nat.le_of_ble_eq_true rfl)) dX1_second_w_113 ⟨Nat.zero_le _, Nat.zero_le _⟩) hA hP hS (fun H locs hP hS => ?_)
                              refine lv_if_eq (tgt := 218) hx hb dX1_second_w_116 (by decide) (fun c_116b => ?_) (fun c_116b => ?_)
                              · skip
                                refine lv_iload hx hb dX1_second_w_218 (lv_at hl 0 rfl) ?_
                                refine cs_i (va_runS (As := [.int z_16]) (rest := []) ⟨hx, hb, hml, hown, hts⟩ (ctm_stands l H.size z_16) (va_cwS 1 hts gX1_second_w_X1_stands rfl rfl rfl (by decide +kernel) ⟨Nat.le_of_ble_eq_true rfl, Nat.le_of_ble_eq_true rfl⟩) ⟨fun a U g mk q => q, fun U hU hW => ⟨rfl, congrArg Array.size hU⟩⟩ rfl rfl hl.1 rfl (lv_room (Nat.le_of_ble_eq_true rfl)) dX1_second_w_220 ⟨Nat.zero_le _, Nat.zero_le _⟩) hA hP hS (fun H locs hP hS => ?_)
                                refine lv_if_eq (tgt := 255) hx hb dX1_second_w_223 (by decide) (fun c_223b => ?_) (fun c_223b => ?_)
                                · skip
                                  exact absurd c_223b c_108b
                                · skip
                                  refine lv_iload hx hb dX1_second_w_226 (lv_at hl 0 rfl) ?_
                                  refine lv_iconst (v := 4) hx hb dX1_second_w_228 (by decide) ?_
                                  refine cs_i (va_runS (As := [.int z_16, .int 4]) (rest := []) ⟨hx, hb, hml, hown, hts⟩ (ctm_isSet l H.size z_16 4) (va_cwS 2 hts gX1_second_w_X1_isSet rfl rfl rfl (by decide +kernel) ⟨Nat.le_of_ble_eq_true rfl, Nat.le_of_ble_eq_true rfl⟩) ⟨fun a U g mk q => q, fun U hU hW => ⟨rfl, congrArg Array.size hU⟩⟩ rfl rfl hl.1 rfl (lv_room (Nat.le_of_ble_eq_true rfl)) dX1_second_w_229 ⟨Nat.zero_le _, Nat.zero_le _⟩) hA hP hS (fun H locs hP hS => ?_)
                                  refine lv_if_ne (tgt := 255) hx hb dX1_second_w_232 (by decide) (fun c_232b => ?_) (fun c_232b => ?_)
                                  · skip
                                    refine lv_iconst (v := 0) hx hb dX1_second_w_255 (by decide) ?_
                                    refine lv_istore (lv' := [(8, .int 0), (11, .int z_16), (9, .long z_15), (6, .long z_12), (0, .ref h0), (1, .long a0), (3, .int a1), (4, .int a2), (5, .int a3)]) hx hb dX1_second_w_256 hl (by decide) rfl (fun ls hl => ?_)
                                    refine lv_iload hx hb dX1_second_w_258 (lv_at hl 1 rfl) ?_
                                    refine lv_bipush (v := 10) hx hb dX1_second_w_260 (by decide) ?_
                                    refine lv_iushr (v := jiushr z_16 10) hx hb dX1_second_w_262 rfl ?_
                                    refine lv_i2l (v := (jiushr z_16 10).toInt64) hx hb dX1_second_w_263 rfl ?_
                                    refine lv_bipush (v := 12) hx hb dX1_second_w_264 (by decide) ?_
                                    refine lv_lshl (v := jlshl ((jiushr z_16 10).toInt64) 12) hx hb dX1_second_w_266 rfl ?_
                                    refine lv_topl (fun z_19 ez_19 => ?_)
                                    refine lv_lstore (lv' := [(6, .long z_19), (8, .int 0), (11, .int z_16), (9, .long z_15), (0, .ref h0), (1, .long a0), (3, .int a1), (4, .int a2), (5, .int a3)]) hx hb dX1_second_w_267 hl (by decide) rfl (fun ls hl => ?_)
                                    refine lv_iinc (v := -1) (lv' := [(8, .int ((-1))), (6, .long z_19), (11, .int z_16), (9, .long z_15), (0, .ref h0), (1, .long a0), (3, .int a1), (4, .int a2), (5, .int a3)]) hx hb dX1_second_w_269 hl (k := 1) rfl (by decide) (by decide) rfl (fun ls hl => ?_)
                                    refine lv_goto (tgt := 31) hx hb dX1_second_w_272 (by decide) ?_
                                    refine lv_iload hx hb dX1_second_w_31 (lv_at hl 0 rfl) ?_
                                    refine lv_if_lt (tgt := 275) hx hb dX1_second_w_33 (by decide) (fun c_33bb => ?_) (fun c_33bb => ?_)
                                    · skip
                                      refine lv_aload_n hx hb dX1_second_w_275 rfl (lv_at hl 4 rfl) ?_
                                      refine lv_iload hx hb dX1_second_w_276 (lv_at hl 7 rfl) ?_
                                      refine lv_bipush (v := 20) hx hb dX1_second_w_278 (by decide) ?_
                                      refine lv_bipush (v := 21) hx hb dX1_second_w_280 (by decide) ?_
                                      refine lv_bipush (v := 23) hx hb dX1_second_w_282 (by decide) ?_
                                      refine cw_v (va_runV (As := [.int a2, .int 20, .int 21, .int 23]) (rest := []) ⟨hx, hb, hml, hown, hts⟩ (ctm_raise l dC dI h0 q_memory k_memory H.size v_atp v_vsAtp v_hgatp v_rights o_14.2 v_found v_wanted v_ofEntry m_memory a2 20 21 23) (cwV 4 hts gX1_second_w_X1_raise rfl rfl rfl (by decide +kernel) ⟨Nat.le_of_ble_eq_true rfl, Nat.le_of_ble_eq_true rfl⟩) ⟨fun a U g mk q => ⟨q.1, q.2.1, q.2.2.1, va_K.moved (u := U) (U := U.calling g mk a) (Vm.Alike.refl U.vm) q.2.2.2.1, q.2.2.2.2⟩, va_recv hK hP (ci := 1) (q0 := 0) rfl rfl, fun U hU hW => ⟨rfl, by rw [hU], by rw [hU]; exact hP, va_K.moved hW.alike hK, hD.weaken (fun _ _ _ _ => trivial)⟩⟩ rfl rfl hl.1 rfl (lv_room (Nat.le_of_ble_eq_true rfl)) dX1_second_w_284 ⟨Nat.zero_le _, Nat.zero_le _⟩) hA hD hP hS (fun o_20 H locs eo_20 hP hD hS => ?_)
                                      have hP : va_P (dC, dI) vwCl (wm h0 q_memory k_memory v_atp v_vsAtp v_hgatp v_rights o_20 v_found v_wanted v_ofEntry m_memory) H := hP
                                      have hD : va_D A (wm h0 q_memory k_memory v_atp v_vsAtp v_hgatp v_rights o_20 v_found v_wanted v_ofEntry m_memory) := hD
                                      refine lv_aload_n hx hb dX1_second_w_287 rfl (lv_at hl 4 rfl) ?_
                                      refine lv_lload_n hx hb dX1_second_w_288 rfl (lv_at hl 5 rfl) ?_
                                      refine va_put (D := (dC, dI)) (ci := 1) (v := .long a0) (ty := .long) (C := RX1) (T := TX1) (N := 9) hx hb hts hwX tyX1 tyX1_ok nmX1 hown hK hP hD hS 0 rfl rfl 7 (by decide) (hts (.fieldLink RX1 73 "StageWalkerModel" "wanted" "J") (by decide +kernel)) (fun _ h9 => h9) rfl (by decide +kernel) rfl rfl (Nat.le_of_ble_eq_true rfl) dX1_second_w_289 (fun H locs hP hD hS => ?_)
                                      have hP : va_P (dC, dI) vwCl (wm h0 q_memory k_memory v_atp v_vsAtp v_hgatp v_rights o_20 v_found a0 v_ofEntry m_memory) H := hP
                                      have hD : va_D A (wm h0 q_memory k_memory v_atp v_vsAtp v_hgatp v_rights o_20 v_found a0 v_ofEntry m_memory) := hD
                                      refine lv_aload_n hx hb dX1_second_w_292 rfl (lv_at hl 4 rfl) ?_
                                      refine lv_iload hx hb dX1_second_w_293 (lv_at hl 8 rfl) ?_
                                      refine va_put (D := (dC, dI)) (ci := 1) (v := .int a3) (ty := .boolean) (C := RX1) (T := TX1) (N := 9) hx hb hts hwX tyX1 tyX1_ok nmX1 hown hK hP hD hS 0 rfl rfl 8 (by decide) (hts (.fieldLink RX1 77 "StageWalkerModel" "ofEntry" "Z") (by decide +kernel)) (fun _ h9 => h9) rfl (by decide +kernel) (nb_z ha3) (fb_z ha3) (Nat.le_of_ble_eq_true rfl) dX1_second_w_295 (fun H locs hP hD hS => ?_)
                                      have hP : va_P (dC, dI) vwCl (wm h0 q_memory k_memory v_atp v_vsAtp v_hgatp v_rights o_20 v_found a0 a3 m_memory) H := hP
                                      have hD : va_D A (wm h0 q_memory k_memory v_atp v_vsAtp v_hgatp v_rights o_20 v_found a0 a3 m_memory) := hD
                                      refine lv_lconst (v := 0) hx hb dX1_second_w_298 (by decide) ?_
                                      exact W.lret (v := 0) hx hb hr (fun t ht hW => ⟨⟨_, (0, o_20, a0, a3), rfl, ⟨rfl, by subst eo_20; subst ez_19; subst ez_16; subst ez_15; subst eo_14; subst ez_13; subst ez_12; subst ez_5; subst ez_4; subst eo_3; subst ez_2; subst ez_1; first | (rw [fm_second_w, if_pos c_4, if_pos c_84, if_neg c_108, if_pos c_116, if_pos c_232, if_pos c_242, if_pos c_252, if_pos c_84b, if_neg c_108b, if_pos c_116b, if_neg c_232b]; done) | (simp only [fm_second_w, if_pos c_4, if_pos c_84, if_neg c_108, if_pos c_116, if_pos c_232, if_pos c_242, if_pos c_252, if_pos c_84b, if_neg c_108b, if_pos c_116b, if_neg c_232b]; done) | (rw [fm_second_w, if_pos c_4, if_pos c_84, if_neg c_108, if_pos c_116, if_pos c_232, if_pos c_242, if_pos c_252, if_pos c_84b, if_neg c_108b, if_pos c_116b, if_neg c_232b] <;> rfl)⟩, by rw [ht]; exact hP, va_K.moved hW.alike hK, hD⟩, hS.F ht⟩) hS.2.2 dX1_second_w_299
                                    · skip
                                      exact absurd (by decide) c_33bb
                                  · skip
                                    refine lv_iload hx hb dX1_second_w_235 (lv_at hl 0 rfl) ?_
                                    refine lv_bipush (v := 6) hx hb dX1_second_w_237 (by decide) ?_
                                    refine cs_i (va_runS (As := [.int z_16, .int 6]) (rest := []) ⟨hx, hb, hml, hown, hts⟩ (ctm_isSet l H.size z_16 6) (va_cwS 2 hts gX1_second_w_X1_isSet rfl rfl rfl (by decide +kernel) ⟨Nat.le_of_ble_eq_true rfl, Nat.le_of_ble_eq_true rfl⟩) ⟨fun a U g mk q => q, fun U hU hW => ⟨rfl, congrArg Array.size hU⟩⟩ rfl rfl hl.1 rfl (lv_room (Nat.le_of_ble_eq_true rfl)) dX1_second_w_239 ⟨Nat.zero_le _, Nat.zero_le _⟩) hA hP hS (fun H locs hP hS => ?_)
                                    refine lv_if_ne (tgt := 255) hx hb dX1_second_w_242 (by decide) (fun c_242b => ?_) (fun c_242b => ?_)
                                    · skip
                                      refine lv_iconst (v := 0) hx hb dX1_second_w_255 (by decide) ?_
                                      refine lv_istore (lv' := [(8, .int 0), (11, .int z_16), (9, .long z_15), (6, .long z_12), (0, .ref h0), (1, .long a0), (3, .int a1), (4, .int a2), (5, .int a3)]) hx hb dX1_second_w_256 hl (by decide) rfl (fun ls hl => ?_)
                                      refine lv_iload hx hb dX1_second_w_258 (lv_at hl 1 rfl) ?_
                                      refine lv_bipush (v := 10) hx hb dX1_second_w_260 (by decide) ?_
                                      refine lv_iushr (v := jiushr z_16 10) hx hb dX1_second_w_262 rfl ?_
                                      refine lv_i2l (v := (jiushr z_16 10).toInt64) hx hb dX1_second_w_263 rfl ?_
                                      refine lv_bipush (v := 12) hx hb dX1_second_w_264 (by decide) ?_
                                      refine lv_lshl (v := jlshl ((jiushr z_16 10).toInt64) 12) hx hb dX1_second_w_266 rfl ?_
                                      refine lv_topl (fun z_21 ez_21 => ?_)
                                      refine lv_lstore (lv' := [(6, .long z_21), (8, .int 0), (11, .int z_16), (9, .long z_15), (0, .ref h0), (1, .long a0), (3, .int a1), (4, .int a2), (5, .int a3)]) hx hb dX1_second_w_267 hl (by decide) rfl (fun ls hl => ?_)
                                      refine lv_iinc (v := -1) (lv' := [(8, .int ((-1))), (6, .long z_21), (11, .int z_16), (9, .long z_15), (0, .ref h0), (1, .long a0), (3, .int a1), (4, .int a2), (5, .int a3)]) hx hb dX1_second_w_269 hl (k := 1) rfl (by decide) (by decide) rfl (fun ls hl => ?_)
                                      refine lv_goto (tgt := 31) hx hb dX1_second_w_272 (by decide) ?_
                                      refine lv_iload hx hb dX1_second_w_31 (lv_at hl 0 rfl) ?_
                                      refine lv_if_lt (tgt := 275) hx hb dX1_second_w_33 (by decide) (fun c_33bb => ?_) (fun c_33bb => ?_)
                                      · skip
                                        refine lv_aload_n hx hb dX1_second_w_275 rfl (lv_at hl 4 rfl) ?_
                                        refine lv_iload hx hb dX1_second_w_276 (lv_at hl 7 rfl) ?_
                                        refine lv_bipush (v := 20) hx hb dX1_second_w_278 (by decide) ?_
                                        refine lv_bipush (v := 21) hx hb dX1_second_w_280 (by decide) ?_
                                        refine lv_bipush (v := 23) hx hb dX1_second_w_282 (by decide) ?_
                                        refine cw_v (va_runV (As := [.int a2, .int 20, .int 21, .int 23]) (rest := []) ⟨hx, hb, hml, hown, hts⟩ (ctm_raise l dC dI h0 q_memory k_memory H.size v_atp v_vsAtp v_hgatp v_rights o_14.2 v_found v_wanted v_ofEntry m_memory a2 20 21 23) (cwV 4 hts gX1_second_w_X1_raise rfl rfl rfl (by decide +kernel) ⟨Nat.le_of_ble_eq_true rfl, Nat.le_of_ble_eq_true rfl⟩) ⟨fun a U g mk q => ⟨q.1, q.2.1, q.2.2.1, va_K.moved (u := U) (U := U.calling g mk a) (Vm.Alike.refl U.vm) q.2.2.2.1, q.2.2.2.2⟩, va_recv hK hP (ci := 1) (q0 := 0) rfl rfl, fun U hU hW => ⟨rfl, by rw [hU], by rw [hU]; exact hP, va_K.moved hW.alike hK, hD.weaken (fun _ _ _ _ => trivial)⟩⟩ rfl rfl hl.1 rfl (lv_room (Nat.le_of_ble_eq_true rfl)) dX1_second_w_284 ⟨Nat.zero_le _, Nat.zero_le _⟩) hA hD hP hS (fun o_22 H locs eo_22 hP hD hS => ?_)
                                        have hP : va_P (dC, dI) vwCl (wm h0 q_memory k_memory v_atp v_vsAtp v_hgatp v_rights o_22 v_found v_wanted v_ofEntry m_memory) H := hP
                                        have hD : va_D A (wm h0 q_memory k_memory v_atp v_vsAtp v_hgatp v_rights o_22 v_found v_wanted v_ofEntry m_memory) := hD
                                        refine lv_aload_n hx hb dX1_second_w_287 rfl (lv_at hl 4 rfl) ?_
                                        refine lv_lload_n hx hb dX1_second_w_288 rfl (lv_at hl 5 rfl) ?_
                                        refine va_put (D := (dC, dI)) (ci := 1) (v := .long a0) (ty := .long) (C := RX1) (T := TX1) (N := 9) hx hb hts hwX tyX1 tyX1_ok nmX1 hown hK hP hD hS 0 rfl rfl 7 (by decide) (hts (.fieldLink RX1 73 "StageWalkerModel" "wanted" "J") (by decide +kernel)) (fun _ h9 => h9) rfl (by decide +kernel) rfl rfl (Nat.le_of_ble_eq_true rfl) dX1_second_w_289 (fun H locs hP hD hS => ?_)
                                        have hP : va_P (dC, dI) vwCl (wm h0 q_memory k_memory v_atp v_vsAtp v_hgatp v_rights o_22 v_found a0 v_ofEntry m_memory) H := hP
                                        have hD : va_D A (wm h0 q_memory k_memory v_atp v_vsAtp v_hgatp v_rights o_22 v_found a0 v_ofEntry m_memory) := hD
                                        refine lv_aload_n hx hb dX1_second_w_292 rfl (lv_at hl 4 rfl) ?_
                                        refine lv_iload hx hb dX1_second_w_293 (lv_at hl 8 rfl) ?_
                                        refine va_put (D := (dC, dI)) (ci := 1) (v := .int a3) (ty := .boolean) (C := RX1) (T := TX1) (N := 9) hx hb hts hwX tyX1 tyX1_ok nmX1 hown hK hP hD hS 0 rfl rfl 8 (by decide) (hts (.fieldLink RX1 77 "StageWalkerModel" "ofEntry" "Z") (by decide +kernel)) (fun _ h9 => h9) rfl (by decide +kernel) (nb_z ha3) (fb_z ha3) (Nat.le_of_ble_eq_true rfl) dX1_second_w_295 (fun H locs hP hD hS => ?_)
                                        have hP : va_P (dC, dI) vwCl (wm h0 q_memory k_memory v_atp v_vsAtp v_hgatp v_rights o_22 v_found a0 a3 m_memory) H := hP
                                        have hD : va_D A (wm h0 q_memory k_memory v_atp v_vsAtp v_hgatp v_rights o_22 v_found a0 a3 m_memory) := hD
                                        refine lv_lconst (v := 0) hx hb dX1_second_w_298 (by decide) ?_
                                        exact W.lret (v := 0) hx hb hr (fun t ht hW => ⟨⟨_, (0, o_22, a0, a3), rfl, ⟨rfl, by subst eo_22; subst ez_21; subst ez_16; subst ez_15; subst eo_14; subst ez_13; subst ez_12; subst ez_5; subst ez_4; subst eo_3; subst ez_2; subst ez_1; first | (rw [fm_second_w, if_pos c_4, if_pos c_84, if_neg c_108, if_pos c_116, if_pos c_232, if_pos c_242, if_pos c_252, if_pos c_84b, if_neg c_108b, if_pos c_116b, if_pos c_232b, if_neg c_242b]; done) | (simp only [fm_second_w, if_pos c_4, if_pos c_84, if_neg c_108, if_pos c_116, if_pos c_232, if_pos c_242, if_pos c_252, if_pos c_84b, if_neg c_108b, if_pos c_116b, if_pos c_232b, if_neg c_242b]; done) | (rw [fm_second_w, if_pos c_4, if_pos c_84, if_neg c_108, if_pos c_116, if_pos c_232, if_pos c_242, if_pos c_252, if_pos c_84b, if_neg c_108b, if_pos c_116b, if_pos c_232b, if_neg c_242b] <;> rfl)⟩, by rw [ht]; exact hP, va_K.moved hW.alike hK, hD⟩, hS.F ht⟩) hS.2.2 dX1_second_w_299
                                      · skip
                                        exact absurd (by decide) c_33bb
                                    · skip
                                      refine lv_iload hx hb dX1_second_w_245 (lv_at hl 0 rfl) ?_
                                      refine lv_bipush (v := 7) hx hb dX1_second_w_247 (by decide) ?_
                                      refine cs_i (va_runS (As := [.int z_16, .int 7]) (rest := []) ⟨hx, hb, hml, hown, hts⟩ (ctm_isSet l H.size z_16 7) (va_cwS 2 hts gX1_second_w_X1_isSet rfl rfl rfl (by decide +kernel) ⟨Nat.le_of_ble_eq_true rfl, Nat.le_of_ble_eq_true rfl⟩) ⟨fun a U g mk q => q, fun U hU hW => ⟨rfl, congrArg Array.size hU⟩⟩ rfl rfl hl.1 rfl (lv_room (Nat.le_of_ble_eq_true rfl)) dX1_second_w_249 ⟨Nat.zero_le _, Nat.zero_le _⟩) hA hP hS (fun H locs hP hS => ?_)
                                      refine lv_if_eq (tgt := 258) hx hb dX1_second_w_252 (by decide) (fun c_252b => ?_) (fun c_252b => ?_)
                                      · skip
                                        refine lv_iload hx hb dX1_second_w_258 (lv_at hl 0 rfl) ?_
                                        refine lv_bipush (v := 10) hx hb dX1_second_w_260 (by decide) ?_
                                        refine lv_iushr (v := jiushr z_16 10) hx hb dX1_second_w_262 rfl ?_
                                        refine lv_i2l (v := (jiushr z_16 10).toInt64) hx hb dX1_second_w_263 rfl ?_
                                        refine lv_bipush (v := 12) hx hb dX1_second_w_264 (by decide) ?_
                                        refine lv_lshl (v := jlshl ((jiushr z_16 10).toInt64) 12) hx hb dX1_second_w_266 rfl ?_
                                        refine lv_topl (fun z_23 ez_23 => ?_)
                                        refine lv_lstore (lv' := [(6, .long z_23), (11, .int z_16), (9, .long z_15), (8, .int 0), (0, .ref h0), (1, .long a0), (3, .int a1), (4, .int a2), (5, .int a3)]) hx hb dX1_second_w_267 hl (by decide) rfl (fun ls hl => ?_)
                                        refine lv_iinc (v := -1) (lv' := [(8, .int ((-1))), (6, .long z_23), (11, .int z_16), (9, .long z_15), (0, .ref h0), (1, .long a0), (3, .int a1), (4, .int a2), (5, .int a3)]) hx hb dX1_second_w_269 hl (k := 3) rfl (by decide) (by decide) rfl (fun ls hl => ?_)
                                        refine lv_goto (tgt := 31) hx hb dX1_second_w_272 (by decide) ?_
                                        refine lv_iload hx hb dX1_second_w_31 (lv_at hl 0 rfl) ?_
                                        refine lv_if_lt (tgt := 275) hx hb dX1_second_w_33 (by decide) (fun c_33bb => ?_) (fun c_33bb => ?_)
                                        · skip
                                          refine lv_aload_n hx hb dX1_second_w_275 rfl (lv_at hl 4 rfl) ?_
                                          refine lv_iload hx hb dX1_second_w_276 (lv_at hl 7 rfl) ?_
                                          refine lv_bipush (v := 20) hx hb dX1_second_w_278 (by decide) ?_
                                          refine lv_bipush (v := 21) hx hb dX1_second_w_280 (by decide) ?_
                                          refine lv_bipush (v := 23) hx hb dX1_second_w_282 (by decide) ?_
                                          refine cw_v (va_runV (As := [.int a2, .int 20, .int 21, .int 23]) (rest := []) ⟨hx, hb, hml, hown, hts⟩ (ctm_raise l dC dI h0 q_memory k_memory H.size v_atp v_vsAtp v_hgatp v_rights o_14.2 v_found v_wanted v_ofEntry m_memory a2 20 21 23) (cwV 4 hts gX1_second_w_X1_raise rfl rfl rfl (by decide +kernel) ⟨Nat.le_of_ble_eq_true rfl, Nat.le_of_ble_eq_true rfl⟩) ⟨fun a U g mk q => ⟨q.1, q.2.1, q.2.2.1, va_K.moved (u := U) (U := U.calling g mk a) (Vm.Alike.refl U.vm) q.2.2.2.1, q.2.2.2.2⟩, va_recv hK hP (ci := 1) (q0 := 0) rfl rfl, fun U hU hW => ⟨rfl, by rw [hU], by rw [hU]; exact hP, va_K.moved hW.alike hK, hD.weaken (fun _ _ _ _ => trivial)⟩⟩ rfl rfl hl.1 rfl (lv_room (Nat.le_of_ble_eq_true rfl)) dX1_second_w_284 ⟨Nat.zero_le _, Nat.zero_le _⟩) hA hD hP hS (fun o_24 H locs eo_24 hP hD hS => ?_)
                                          have hP : va_P (dC, dI) vwCl (wm h0 q_memory k_memory v_atp v_vsAtp v_hgatp v_rights o_24 v_found v_wanted v_ofEntry m_memory) H := hP
                                          have hD : va_D A (wm h0 q_memory k_memory v_atp v_vsAtp v_hgatp v_rights o_24 v_found v_wanted v_ofEntry m_memory) := hD
                                          refine lv_aload_n hx hb dX1_second_w_287 rfl (lv_at hl 4 rfl) ?_
                                          refine lv_lload_n hx hb dX1_second_w_288 rfl (lv_at hl 5 rfl) ?_
                                          refine va_put (D := (dC, dI)) (ci := 1) (v := .long a0) (ty := .long) (C := RX1) (T := TX1) (N := 9) hx hb hts hwX tyX1 tyX1_ok nmX1 hown hK hP hD hS 0 rfl rfl 7 (by decide) (hts (.fieldLink RX1 73 "StageWalkerModel" "wanted" "J") (by decide +kernel)) (fun _ h9 => h9) rfl (by decide +kernel) rfl rfl (Nat.le_of_ble_eq_true rfl) dX1_second_w_289 (fun H locs hP hD hS => ?_)
                                          have hP : va_P (dC, dI) vwCl (wm h0 q_memory k_memory v_atp v_vsAtp v_hgatp v_rights o_24 v_found a0 v_ofEntry m_memory) H := hP
                                          have hD : va_D A (wm h0 q_memory k_memory v_atp v_vsAtp v_hgatp v_rights o_24 v_found a0 v_ofEntry m_memory) := hD
                                          refine lv_aload_n hx hb dX1_second_w_292 rfl (lv_at hl 4 rfl) ?_
                                          refine lv_iload hx hb dX1_second_w_293 (lv_at hl 8 rfl) ?_
                                          refine va_put (D := (dC, dI)) (ci := 1) (v := .int a3) (ty := .boolean) (C := RX1) (T := TX1) (N := 9) hx hb hts hwX tyX1 tyX1_ok nmX1 hown hK hP hD hS 0 rfl rfl 8 (by decide) (hts (.fieldLink RX1 77 "StageWalkerModel" "ofEntry" "Z") (by decide +kernel)) (fun _ h9 => h9) rfl (by decide +kernel) (nb_z ha3) (fb_z ha3) (Nat.le_of_ble_eq_true rfl) dX1_second_w_295 (fun H locs hP hD hS => ?_)
                                          have hP : va_P (dC, dI) vwCl (wm h0 q_memory k_memory v_atp v_vsAtp v_hgatp v_rights o_24 v_found a0 a3 m_memory) H := hP
                                          have hD : va_D A (wm h0 q_memory k_memory v_atp v_vsAtp v_hgatp v_rights o_24 v_found a0 a3 m_memory) := hD
                                          refine lv_lconst (v := 0) hx hb dX1_second_w_298 (by decide) ?_
                                          exact W.lret (v := 0) hx hb hr (fun t ht hW => ⟨⟨_, (0, o_24, a0, a3), rfl, ⟨rfl, by subst eo_24; subst ez_23; subst ez_16; subst ez_15; subst eo_14; subst ez_13; subst ez_12; subst ez_5; subst ez_4; subst eo_3; subst ez_2; subst ez_1; first | (rw [fm_second_w, if_pos c_4, if_pos c_84, if_neg c_108, if_pos c_116, if_pos c_232, if_pos c_242, if_pos c_252, if_pos c_84b, if_neg c_108b, if_pos c_116b, if_pos c_232b, if_pos c_242b, if_pos c_252b]; done) | (simp only [fm_second_w, if_pos c_4, if_pos c_84, if_neg c_108, if_pos c_116, if_pos c_232, if_pos c_242, if_pos c_252, if_pos c_84b, if_neg c_108b, if_pos c_116b, if_pos c_232b, if_pos c_242b, if_pos c_252b]; done) | (rw [fm_second_w, if_pos c_4, if_pos c_84, if_neg c_108, if_pos c_116, if_pos c_232, if_pos c_242, if_pos c_252, if_pos c_84b, if_neg c_108b, if_pos c_116b, if_pos c_232b, if_pos c_242b, if_pos c_252b] <;> rfl)⟩, by rw [ht]; exact hP, va_K.moved hW.alike hK, hD⟩, hS.F ht⟩) hS.2.2 dX1_second_w_299
                                        · skip
                                          exact absurd (by decide) c_33bb
                                      · skip
                                        refine lv_iconst (v := 0) hx hb dX1_second_w_255 (by decide) ?_
                                        refine lv_istore (lv' := [(8, .int 0), (11, .int z_16), (9, .long z_15), (6, .long z_12), (0, .ref h0), (1, .long a0), (3, .int a1), (4, .int a2), (5, .int a3)]) hx hb dX1_second_w_256 hl (by decide) rfl (fun ls hl => ?_)
                                        refine lv_iload hx hb dX1_second_w_258 (lv_at hl 1 rfl) ?_
                                        refine lv_bipush (v := 10) hx hb dX1_second_w_260 (by decide) ?_
                                        refine lv_iushr (v := jiushr z_16 10) hx hb dX1_second_w_262 rfl ?_
                                        refine lv_i2l (v := (jiushr z_16 10).toInt64) hx hb dX1_second_w_263 rfl ?_
                                        refine lv_bipush (v := 12) hx hb dX1_second_w_264 (by decide) ?_
                                        refine lv_lshl (v := jlshl ((jiushr z_16 10).toInt64) 12) hx hb dX1_second_w_266 rfl ?_
                                        refine lv_topl (fun z_25 ez_25 => ?_)
                                        refine lv_lstore (lv' := [(6, .long z_25), (8, .int 0), (11, .int z_16), (9, .long z_15), (0, .ref h0), (1, .long a0), (3, .int a1), (4, .int a2), (5, .int a3)]) hx hb dX1_second_w_267 hl (by decide) rfl (fun ls hl => ?_)
                                        refine lv_iinc (v := -1) (lv' := [(8, .int ((-1))), (6, .long z_25), (11, .int z_16), (9, .long z_15), (0, .ref h0), (1, .long a0), (3, .int a1), (4, .int a2), (5, .int a3)]) hx hb dX1_second_w_269 hl (k := 1) rfl (by decide) (by decide) rfl (fun ls hl => ?_)
                                        refine lv_goto (tgt := 31) hx hb dX1_second_w_272 (by decide) ?_
                                        refine lv_iload hx hb dX1_second_w_31 (lv_at hl 0 rfl) ?_
                                        refine lv_if_lt (tgt := 275) hx hb dX1_second_w_33 (by decide) (fun c_33bb => ?_) (fun c_33bb => ?_)
                                        · skip
                                          refine lv_aload_n hx hb dX1_second_w_275 rfl (lv_at hl 4 rfl) ?_
                                          refine lv_iload hx hb dX1_second_w_276 (lv_at hl 7 rfl) ?_
                                          refine lv_bipush (v := 20) hx hb dX1_second_w_278 (by decide) ?_
                                          refine lv_bipush (v := 21) hx hb dX1_second_w_280 (by decide) ?_
                                          refine lv_bipush (v := 23) hx hb dX1_second_w_282 (by decide) ?_
                                          refine cw_v (va_runV (As := [.int a2, .int 20, .int 21, .int 23]) (rest := []) ⟨hx, hb, hml, hown, hts⟩ (ctm_raise l dC dI h0 q_memory k_memory H.size v_atp v_vsAtp v_hgatp v_rights o_14.2 v_found v_wanted v_ofEntry m_memory a2 20 21 23) (cwV 4 hts gX1_second_w_X1_raise rfl rfl rfl (by decide +kernel) ⟨Nat.le_of_ble_eq_true rfl, Nat.le_of_ble_eq_true rfl⟩) ⟨fun a U g mk q => ⟨q.1, q.2.1, q.2.2.1, va_K.moved (u := U) (U := U.calling g mk a) (Vm.Alike.refl U.vm) q.2.2.2.1, q.2.2.2.2⟩, va_recv hK hP (ci := 1) (q0 := 0) rfl rfl, fun U hU hW => ⟨rfl, by rw [hU], by rw [hU]; exact hP, va_K.moved hW.alike hK, hD.weaken (fun _ _ _ _ => trivial)⟩⟩ rfl rfl hl.1 rfl (lv_room (Nat.le_of_ble_eq_true rfl)) dX1_second_w_284 ⟨Nat.zero_le _, Nat.zero_le _⟩) hA hD hP hS (fun o_26 H locs eo_26 hP hD hS => ?_)
                                          have hP : va_P (dC, dI) vwCl (wm h0 q_memory k_memory v_atp v_vsAtp v_hgatp v_rights o_26 v_found v_wanted v_ofEntry m_memory) H := hP
                                          have hD : va_D A (wm h0 q_memory k_memory v_atp v_vsAtp v_hgatp v_rights o_26 v_found v_wanted v_ofEntry m_memory) := hD
                                          refine lv_aload_n hx hb dX1_second_w_287 rfl (lv_at hl 4 rfl) ?_
                                          refine lv_lload_n hx hb dX1_second_w_288 rfl (lv_at hl 5 rfl) ?_
                                          refine va_put (D := (dC, dI)) (ci := 1) (v := .long a0) (ty := .long) (C := RX1) (T := TX1) (N := 9) hx hb hts hwX tyX1 tyX1_ok nmX1 hown hK hP hD hS 0 rfl rfl 7 (by decide) (hts (.fieldLink RX1 73 "StageWalkerModel" "wanted" "J") (by decide +kernel)) (fun _ h9 => h9) rfl (by decide +kernel) rfl rfl (Nat.le_of_ble_eq_true rfl) dX1_second_w_289 (fun H locs hP hD hS => ?_)
                                          have hP : va_P (dC, dI) vwCl (wm h0 q_memory k_memory v_atp v_vsAtp v_hgatp v_rights o_26 v_found a0 v_ofEntry m_memory) H := hP
                                          have hD : va_D A (wm h0 q_memory k_memory v_atp v_vsAtp v_hgatp v_rights o_26 v_found a0 v_ofEntry m_memory) := hD
                                          refine lv_aload_n hx hb dX1_second_w_292 rfl (lv_at hl 4 rfl) ?_
                                          refine lv_iload hx hb dX1_second_w_293 (lv_at hl 8 rfl) ?_
                                          refine va_put (D := (dC, dI)) (ci := 1) (v := .int a3) (ty := .boolean) (C := RX1) (T := TX1) (N := 9) hx hb hts hwX tyX1 tyX1_ok nmX1 hown hK hP hD hS 0 rfl rfl 8 (by decide) (hts (.fieldLink RX1 77 "StageWalkerModel" "ofEntry" "Z") (by decide +kernel)) (fun _ h9 => h9) rfl (by decide +kernel) (nb_z ha3) (fb_z ha3) (Nat.le_of_ble_eq_true rfl) dX1_second_w_295 (fun H locs hP hD hS => ?_)
                                          have hP : va_P (dC, dI) vwCl (wm h0 q_memory k_memory v_atp v_vsAtp v_hgatp v_rights o_26 v_found a0 a3 m_memory) H := hP
                                          have hD : va_D A (wm h0 q_memory k_memory v_atp v_vsAtp v_hgatp v_rights o_26 v_found a0 a3 m_memory) := hD
                                          refine lv_lconst (v := 0) hx hb dX1_second_w_298 (by decide) ?_
                                          exact W.lret (v := 0) hx hb hr (fun t ht hW => ⟨⟨_, (0, o_26, a0, a3), rfl, ⟨rfl, by subst eo_26; subst ez_25; subst ez_16; subst ez_15; subst eo_14; subst ez_13; subst ez_12; subst ez_5; subst ez_4; subst eo_3; subst ez_2; subst ez_1; first | (rw [fm_second_w, if_pos c_4, if_pos c_84, if_neg c_108, if_pos c_116, if_pos c_232, if_pos c_242, if_pos c_252, if_pos c_84b, if_neg c_108b, if_pos c_116b, if_pos c_232b, if_pos c_242b, if_neg c_252b]; done) | (simp only [fm_second_w, if_pos c_4, if_pos c_84, if_neg c_108, if_pos c_116, if_pos c_232, if_pos c_242, if_pos c_252, if_pos c_84b, if_neg c_108b, if_pos c_116b, if_pos c_232b, if_pos c_242b, if_neg c_252b]; done) | (rw [fm_second_w, if_pos c_4, if_pos c_84, if_neg c_108, if_pos c_116, if_pos c_232, if_pos c_242, if_pos c_252, if_pos c_84b, if_neg c_108b, if_pos c_116b, if_pos c_232b, if_pos c_242b, if_neg c_252b] <;> rfl)⟩, by rw [ht]; exact hP, va_K.moved hW.alike hK, hD⟩, hS.F ht⟩) hS.2.2 dX1_second_w_299
                                        · skip
                                          exact absurd (by decide) c_33bb
                              · skip
                                refine lv_iload hx hb dX1_second_w_119 (lv_at hl 2 rfl) ?_
                                refine lv_iconst (v := 1) hx hb dX1_second_w_121 (by decide) ?_
                                refine lv_icmp_ne (tgt := 129) hx hb dX1_second_w_122 (by decide) (fun c_122 => ?_) (fun c_122 => ?_)
                                · skip
                                  refine lv_iconst (v := 0) hx hb dX1_second_w_129 (by decide) ?_
                                  refine lv_istore (lv' := [(12, .int 0), (11, .int z_16), (9, .long z_15), (8, .int 0), (6, .long z_12), (0, .ref h0), (1, .long a0), (3, .int a1), (4, .int a2), (5, .int a3)]) hx hb dX1_second_w_130 hl (by decide) rfl (fun ls hl => ?_)
                                  refine lv_iload hx hb dX1_second_w_132 (lv_at hl 0 rfl) ?_
                                  refine lv_if_eq (tgt := 149) hx hb dX1_second_w_134 (by decide) (fun c_134 => ?_) (fun c_134 => ?_)
                                  · skip
                                    refine lv_iconst (v := 1) hx hb dX1_second_w_149 (by decide) ?_
                                    refine lv_goto (tgt := 154) hx hb dX1_second_w_150 (by decide) ?_
                                    refine lv_istore (lv' := [(13, .int 1), (12, .int 0), (11, .int z_16), (9, .long z_15), (8, .int 0), (6, .long z_12), (0, .ref h0), (1, .long a0), (3, .int a1), (4, .int a2), (5, .int a3)]) hx hb dX1_second_w_154 hl (by decide) rfl (fun ls hl => ?_)
                                    refine lv_iload hx hb dX1_second_w_156 (lv_at hl 0 rfl) ?_
                                    refine lv_if_eq (tgt := 212) hx hb dX1_second_w_158 (by decide) (fun c_158 => ?_) (fun c_158 => ?_)
                                    · skip
                                      exact absurd c_158 (by decide)
                                    · skip
                                      refine lv_iload hx hb dX1_second_w_161 (lv_at hl 2 rfl) ?_
                                      refine lv_iconst (v := 4) hx hb dX1_second_w_163 (by decide) ?_
                                      refine cs_i (va_runS (As := [.int z_16, .int 4]) (rest := []) ⟨hx, hb, hml, hown, hts⟩ (ctm_isSet l H.size z_16 4) (va_cwS 2 hts gX1_second_w_X1_isSet rfl rfl rfl (by decide +kernel) ⟨Nat.le_of_ble_eq_true rfl, Nat.le_of_ble_eq_true rfl⟩) ⟨fun a U g mk q => q, fun U hU hW => ⟨rfl, congrArg Array.size hU⟩⟩ rfl rfl hl.1 rfl (lv_room (Nat.le_of_ble_eq_true rfl)) dX1_second_w_164 ⟨Nat.zero_le _, Nat.zero_le _⟩) hA hP hS (fun H locs hP hS => ?_)
                                      refine lv_if_eq (tgt := 212) hx hb dX1_second_w_167 (by decide) (fun c_167 => ?_) (fun c_167 => ?_)
                                      · skip
                                        refine lv_iconst (v := 0) hx hb dX1_second_w_212 (by decide) ?_
                                        refine lv_istore (lv' := [(8, .int 0), (13, .int 1), (12, .int 0), (11, .int z_16), (9, .long z_15), (6, .long z_12), (0, .ref h0), (1, .long a0), (3, .int a1), (4, .int a2), (5, .int a3)]) hx hb dX1_second_w_213 hl (by decide) rfl (fun ls hl => ?_)
                                        refine lv_goto (tgt := 258) hx hb dX1_second_w_215 (by decide) ?_
                                        refine lv_iload hx hb dX1_second_w_258 (lv_at hl 3 rfl) ?_
                                        refine lv_bipush (v := 10) hx hb dX1_second_w_260 (by decide) ?_
                                        refine lv_iushr (v := jiushr z_16 10) hx hb dX1_second_w_262 rfl ?_
                                        refine lv_i2l (v := (jiushr z_16 10).toInt64) hx hb dX1_second_w_263 rfl ?_
                                        refine lv_bipush (v := 12) hx hb dX1_second_w_264 (by decide) ?_
                                        refine lv_lshl (v := jlshl ((jiushr z_16 10).toInt64) 12) hx hb dX1_second_w_266 rfl ?_
                                        refine lv_topl (fun z_27 ez_27 => ?_)
                                        refine lv_lstore (lv' := [(6, .long z_27), (8, .int 0), (13, .int 1), (12, .int 0), (11, .int z_16), (9, .long z_15), (0, .ref h0), (1, .long a0), (3, .int a1), (4, .int a2), (5, .int a3)]) hx hb dX1_second_w_267 hl (by decide) rfl (fun ls hl => ?_)
                                        refine lv_iinc (v := -1) (lv' := [(8, .int ((-1))), (6, .long z_27), (13, .int 1), (12, .int 0), (11, .int z_16), (9, .long z_15), (0, .ref h0), (1, .long a0), (3, .int a1), (4, .int a2), (5, .int a3)]) hx hb dX1_second_w_269 hl (k := 1) rfl (by decide) (by decide) rfl (fun ls hl => ?_)
                                        refine lv_goto (tgt := 31) hx hb dX1_second_w_272 (by decide) ?_
                                        refine lv_iload hx hb dX1_second_w_31 (lv_at hl 0 rfl) ?_
                                        refine lv_if_lt (tgt := 275) hx hb dX1_second_w_33 (by decide) (fun c_33bb => ?_) (fun c_33bb => ?_)
                                        · skip
                                          refine lv_aload_n hx hb dX1_second_w_275 rfl (lv_at hl 6 rfl) ?_
                                          refine lv_iload hx hb dX1_second_w_276 (lv_at hl 9 rfl) ?_
                                          refine lv_bipush (v := 20) hx hb dX1_second_w_278 (by decide) ?_
                                          refine lv_bipush (v := 21) hx hb dX1_second_w_280 (by decide) ?_
                                          refine lv_bipush (v := 23) hx hb dX1_second_w_282 (by decide) ?_
                                          refine cw_v (va_runV (As := [.int a2, .int 20, .int 21, .int 23]) (rest := []) ⟨hx, hb, hml, hown, hts⟩ (ctm_raise l dC dI h0 q_memory k_memory H.size v_atp v_vsAtp v_hgatp v_rights o_14.2 v_found v_wanted v_ofEntry m_memory a2 20 21 23) (cwV 4 hts gX1_second_w_X1_raise rfl rfl rfl (by decide +kernel) ⟨Nat.le_of_ble_eq_true rfl, Nat.le_of_ble_eq_true rfl⟩) ⟨fun a U g mk q => ⟨q.1, q.2.1, q.2.2.1, va_K.moved (u := U) (U := U.calling g mk a) (Vm.Alike.refl U.vm) q.2.2.2.1, q.2.2.2.2⟩, va_recv hK hP (ci := 1) (q0 := 0) rfl rfl, fun U hU hW => ⟨rfl, by rw [hU], by rw [hU]; exact hP, va_K.moved hW.alike hK, hD.weaken (fun _ _ _ _ => trivial)⟩⟩ rfl rfl hl.1 rfl (lv_room (Nat.le_of_ble_eq_true rfl)) dX1_second_w_284 ⟨Nat.zero_le _, Nat.zero_le _⟩) hA hD hP hS (fun o_28 H locs eo_28 hP hD hS => ?_)
                                          have hP : va_P (dC, dI) vwCl (wm h0 q_memory k_memory v_atp v_vsAtp v_hgatp v_rights o_28 v_found v_wanted v_ofEntry m_memory) H := hP
                                          have hD : va_D A (wm h0 q_memory k_memory v_atp v_vsAtp v_hgatp v_rights o_28 v_found v_wanted v_ofEntry m_memory) := hD
                                          refine lv_aload_n hx hb dX1_second_w_287 rfl (lv_at hl 6 rfl) ?_
                                          refine lv_lload_n hx hb dX1_second_w_288 rfl (lv_at hl 7 rfl) ?_
                                          refine va_put (D := (dC, dI)) (ci := 1) (v := .long a0) (ty := .long) (C := RX1) (T := TX1) (N := 9) hx hb hts hwX tyX1 tyX1_ok nmX1 hown hK hP hD hS 0 rfl rfl 7 (by decide) (hts (.fieldLink RX1 73 "StageWalkerModel" "wanted" "J") (by decide +kernel)) (fun _ h9 => h9) rfl (by decide +kernel) rfl rfl (Nat.le_of_ble_eq_true rfl) dX1_second_w_289 (fun H locs hP hD hS => ?_)
                                          have hP : va_P (dC, dI) vwCl (wm h0 q_memory k_memory v_atp v_vsAtp v_hgatp v_rights o_28 v_found a0 v_ofEntry m_memory) H := hP
                                          have hD : va_D A (wm h0 q_memory k_memory v_atp v_vsAtp v_hgatp v_rights o_28 v_found a0 v_ofEntry m_memory) := hD
                                          refine lv_aload_n hx hb dX1_second_w_292 rfl (lv_at hl 6 rfl) ?_
                                          refine lv_iload hx hb dX1_second_w_293 (lv_at hl 10 rfl) ?_
                                          refine va_put (D := (dC, dI)) (ci := 1) (v := .int a3) (ty := .boolean) (C := RX1) (T := TX1) (N := 9) hx hb hts hwX tyX1 tyX1_ok nmX1 hown hK hP hD hS 0 rfl rfl 8 (by decide) (hts (.fieldLink RX1 77 "StageWalkerModel" "ofEntry" "Z") (by decide +kernel)) (fun _ h9 => h9) rfl (by decide +kernel) (nb_z ha3) (fb_z ha3) (Nat.le_of_ble_eq_true rfl) dX1_second_w_295 (fun H locs hP hD hS => ?_)
                                          have hP : va_P (dC, dI) vwCl (wm h0 q_memory k_memory v_atp v_vsAtp v_hgatp v_rights o_28 v_found a0 a3 m_memory) H := hP
                                          have hD : va_D A (wm h0 q_memory k_memory v_atp v_vsAtp v_hgatp v_rights o_28 v_found a0 a3 m_memory) := hD
                                          refine lv_lconst (v := 0) hx hb dX1_second_w_298 (by decide) ?_
                                          exact W.lret (v := 0) hx hb hr (fun t ht hW => ⟨⟨_, (0, o_28, a0, a3), rfl, ⟨rfl, by subst eo_28; subst ez_27; subst ez_16; subst ez_15; subst eo_14; subst ez_13; subst ez_12; subst ez_5; subst ez_4; subst eo_3; subst ez_2; subst ez_1; first | (rw [fm_second_w, if_pos c_4, if_pos c_84, if_neg c_108, if_pos c_116, if_pos c_232, if_pos c_242, if_pos c_252, if_pos c_84b, if_neg c_108b, if_neg c_116b, if_pos c_167]; done) | (simp only [fm_second_w, if_pos c_4, if_pos c_84, if_neg c_108, if_pos c_116, if_pos c_232, if_pos c_242, if_pos c_252, if_pos c_84b, if_neg c_108b, if_neg c_116b, if_pos c_167]; done) | (rw [fm_second_w, if_pos c_4, if_pos c_84, if_neg c_108, if_pos c_116, if_pos c_232, if_pos c_242, if_pos c_252, if_pos c_84b, if_neg c_108b, if_neg c_116b, if_pos c_167] <;> rfl)⟩, by rw [ht]; exact hP, va_K.moved hW.alike hK, hD⟩, hS.F ht⟩) hS.2.2 dX1_second_w_299
                                        · skip
                                          exact absurd (by decide) c_33bb
                                      · skip
                                        refine lv_iload hx hb dX1_second_w_170 (lv_at hl 2 rfl) ?_
                                        refine lv_iload_n hx hb dX1_second_w_172 rfl (lv_at hl 8 rfl) ?_
                                        refine lv_iload hx hb dX1_second_w_173 (lv_at hl 10 rfl) ?_
                                        refine lj_i (j := 191) (z0 := if a3 = 0 then if ((fm_has v_rights 1)) = 0 then 0 else 1 else 0) (rest := [.int a1, .int z_16]) hP hS (fun H locs hP hS z_29 ez_29 => ?_) (fun J191_175 => ?_)
                                        · skip
                                          have oz_29 : z_29 = 0 ∨ z_29 = 1 := by rw [ez_29]; exact ite01 (ite01 (Or.inl rfl) (Or.inr rfl)) (Or.inl rfl)
                                          refine cs_i (va_runS (As := [.int z_16, .int a1, .int z_29]) (rest := []) ⟨hx, hb, hml, hown, hts⟩ (ctm_allows l H.size z_16 a1 z_29) (va_cwS 3 hts gX1_second_w_X1_allows rfl rfl rfl (by decide +kernel) ⟨Nat.le_of_ble_eq_true rfl, Nat.le_of_ble_eq_true rfl⟩) ⟨fun a U g mk q => q, fun U hU hW => ⟨rfl, congrArg Array.size hU⟩⟩ rfl rfl hl.1 rfl (lv_room (Nat.le_of_ble_eq_true rfl)) dX1_second_w_191 ⟨Nat.zero_le _, Nat.zero_le _⟩) hA hP hS (fun H locs hP hS => ?_)
                                          refine lv_if_eq (tgt := 212) hx hb dX1_second_w_194 (by decide) (fun c_194 => ?_) (fun c_194 => ?_)
                                          · skip
                                            refine lv_iconst (v := 0) hx hb dX1_second_w_212 (by decide) ?_
                                            refine lv_istore (lv' := [(8, .int 0), (13, .int 1), (12, .int 0), (11, .int z_16), (9, .long z_15), (6, .long z_12), (0, .ref h0), (1, .long a0), (3, .int a1), (4, .int a2), (5, .int a3)]) hx hb dX1_second_w_213 hl (by decide) rfl (fun ls hl => ?_)
                                            refine lv_goto (tgt := 258) hx hb dX1_second_w_215 (by decide) ?_
                                            refine lv_iload hx hb dX1_second_w_258 (lv_at hl 3 rfl) ?_
                                            refine lv_bipush (v := 10) hx hb dX1_second_w_260 (by decide) ?_
                                            refine lv_iushr (v := jiushr z_16 10) hx hb dX1_second_w_262 rfl ?_
                                            refine lv_i2l (v := (jiushr z_16 10).toInt64) hx hb dX1_second_w_263 rfl ?_
                                            refine lv_bipush (v := 12) hx hb dX1_second_w_264 (by decide) ?_
                                            refine lv_lshl (v := jlshl ((jiushr z_16 10).toInt64) 12) hx hb dX1_second_w_266 rfl ?_
                                            refine lv_topl (fun z_30 ez_30 => ?_)
                                            refine lv_lstore (lv' := [(6, .long z_30), (8, .int 0), (13, .int 1), (12, .int 0), (11, .int z_16), (9, .long z_15), (0, .ref h0), (1, .long a0), (3, .int a1), (4, .int a2), (5, .int a3)]) hx hb dX1_second_w_267 hl (by decide) rfl (fun ls hl => ?_)
                                            refine lv_iinc (v := -1) (lv' := [(8, .int ((-1))), (6, .long z_30), (13, .int 1), (12, .int 0), (11, .int z_16), (9, .long z_15), (0, .ref h0), (1, .long a0), (3, .int a1), (4, .int a2), (5, .int a3)]) hx hb dX1_second_w_269 hl (k := 1) rfl (by decide) (by decide) rfl (fun ls hl => ?_)
                                            refine lv_goto (tgt := 31) hx hb dX1_second_w_272 (by decide) ?_
                                            refine lv_iload hx hb dX1_second_w_31 (lv_at hl 0 rfl) ?_
                                            refine lv_if_lt (tgt := 275) hx hb dX1_second_w_33 (by decide) (fun c_33bb => ?_) (fun c_33bb => ?_)
                                            · skip
                                              refine lv_aload_n hx hb dX1_second_w_275 rfl (lv_at hl 6 rfl) ?_
                                              refine lv_iload hx hb dX1_second_w_276 (lv_at hl 9 rfl) ?_
                                              refine lv_bipush (v := 20) hx hb dX1_second_w_278 (by decide) ?_
                                              refine lv_bipush (v := 21) hx hb dX1_second_w_280 (by decide) ?_
                                              refine lv_bipush (v := 23) hx hb dX1_second_w_282 (by decide) ?_
                                              refine cw_v (va_runV (As := [.int a2, .int 20, .int 21, .int 23]) (rest := []) ⟨hx, hb, hml, hown, hts⟩ (ctm_raise l dC dI h0 q_memory k_memory H.size v_atp v_vsAtp v_hgatp v_rights o_14.2 v_found v_wanted v_ofEntry m_memory a2 20 21 23) (cwV 4 hts gX1_second_w_X1_raise rfl rfl rfl (by decide +kernel) ⟨Nat.le_of_ble_eq_true rfl, Nat.le_of_ble_eq_true rfl⟩) ⟨fun a U g mk q => ⟨q.1, q.2.1, q.2.2.1, va_K.moved (u := U) (U := U.calling g mk a) (Vm.Alike.refl U.vm) q.2.2.2.1, q.2.2.2.2⟩, va_recv hK hP (ci := 1) (q0 := 0) rfl rfl, fun U hU hW => ⟨rfl, by rw [hU], by rw [hU]; exact hP, va_K.moved hW.alike hK, hD.weaken (fun _ _ _ _ => trivial)⟩⟩ rfl rfl hl.1 rfl (lv_room (Nat.le_of_ble_eq_true rfl)) dX1_second_w_284 ⟨Nat.zero_le _, Nat.zero_le _⟩) hA hD hP hS (fun o_31 H locs eo_31 hP hD hS => ?_)
                                              have hP : va_P (dC, dI) vwCl (wm h0 q_memory k_memory v_atp v_vsAtp v_hgatp v_rights o_31 v_found v_wanted v_ofEntry m_memory) H := hP
                                              have hD : va_D A (wm h0 q_memory k_memory v_atp v_vsAtp v_hgatp v_rights o_31 v_found v_wanted v_ofEntry m_memory) := hD
                                              refine lv_aload_n hx hb dX1_second_w_287 rfl (lv_at hl 6 rfl) ?_
                                              refine lv_lload_n hx hb dX1_second_w_288 rfl (lv_at hl 7 rfl) ?_
                                              refine va_put (D := (dC, dI)) (ci := 1) (v := .long a0) (ty := .long) (C := RX1) (T := TX1) (N := 9) hx hb hts hwX tyX1 tyX1_ok nmX1 hown hK hP hD hS 0 rfl rfl 7 (by decide) (hts (.fieldLink RX1 73 "StageWalkerModel" "wanted" "J") (by decide +kernel)) (fun _ h9 => h9) rfl (by decide +kernel) rfl rfl (Nat.le_of_ble_eq_true rfl) dX1_second_w_289 (fun H locs hP hD hS => ?_)
                                              have hP : va_P (dC, dI) vwCl (wm h0 q_memory k_memory v_atp v_vsAtp v_hgatp v_rights o_31 v_found a0 v_ofEntry m_memory) H := hP
                                              have hD : va_D A (wm h0 q_memory k_memory v_atp v_vsAtp v_hgatp v_rights o_31 v_found a0 v_ofEntry m_memory) := hD
                                              refine lv_aload_n hx hb dX1_second_w_292 rfl (lv_at hl 6 rfl) ?_
                                              refine lv_iload hx hb dX1_second_w_293 (lv_at hl 10 rfl) ?_
                                              refine va_put (D := (dC, dI)) (ci := 1) (v := .int a3) (ty := .boolean) (C := RX1) (T := TX1) (N := 9) hx hb hts hwX tyX1 tyX1_ok nmX1 hown hK hP hD hS 0 rfl rfl 8 (by decide) (hts (.fieldLink RX1 77 "StageWalkerModel" "ofEntry" "Z") (by decide +kernel)) (fun _ h9 => h9) rfl (by decide +kernel) (nb_z ha3) (fb_z ha3) (Nat.le_of_ble_eq_true rfl) dX1_second_w_295 (fun H locs hP hD hS => ?_)
                                              have hP : va_P (dC, dI) vwCl (wm h0 q_memory k_memory v_atp v_vsAtp v_hgatp v_rights o_31 v_found a0 a3 m_memory) H := hP
                                              have hD : va_D A (wm h0 q_memory k_memory v_atp v_vsAtp v_hgatp v_rights o_31 v_found a0 a3 m_memory) := hD
                                              refine lv_lconst (v := 0) hx hb dX1_second_w_298 (by decide) ?_
                                              exact W.lret (v := 0) hx hb hr (fun t ht hW => ⟨⟨_, (0, o_31, a0, a3), rfl, ⟨rfl, by subst eo_31; subst ez_30; subst ez_29; subst ez_16; subst ez_15; subst eo_14; subst ez_13; subst ez_12; subst ez_5; subst ez_4; subst eo_3; subst ez_2; subst ez_1; first | (rw [fm_second_w, if_pos c_4, if_pos c_84, if_neg c_108, if_pos c_116, if_pos c_232, if_pos c_242, if_pos c_252, if_pos c_84b, if_neg c_108b, if_neg c_116b, if_neg c_167, if_pos c_194]; done) | (simp only [fm_second_w, if_pos c_4, if_pos c_84, if_neg c_108, if_pos c_116, if_pos c_232, if_pos c_242, if_pos c_252, if_pos c_84b, if_neg c_108b, if_neg c_116b, if_neg c_167, if_pos c_194]; done) | (rw [fm_second_w, if_pos c_4, if_pos c_84, if_neg c_108, if_pos c_116, if_pos c_232, if_pos c_242, if_pos c_252, if_pos c_84b, if_neg c_108b, if_neg c_116b, if_neg c_167, if_pos c_194] <;> rfl)⟩, by rw [ht]; exact hP, va_K.moved hW.alike hK, hD⟩, hS.F ht⟩) hS.2.2 dX1_second_w_299
                                            · skip
                                              exact absurd (by decide) c_33bb
                                          · skip
                                            refine lv_aload_n hx hb dX1_second_w_197 rfl (lv_at hl 6 rfl) ?_
                                            refine lv_iload hx hb dX1_second_w_198 (lv_at hl 9 rfl) ?_
                                            refine lv_iload hx hb dX1_second_w_200 (lv_at hl 2 rfl) ?_
                                            refine lv_iload hx hb dX1_second_w_202 (lv_at hl 1 rfl) ?_
                                            refine lv_lload_n hx hb dX1_second_w_204 rfl (lv_at hl 7 rfl) ?_
                                            refine cs_l (va_runS (As := [.int z_16, .int 0, .long a0]) (rest := [.int a2, .ref h0]) ⟨hx, hb, hml, hown, hts⟩ (ctm_result l H.size z_16 0 a0) (va_cwS 3 hts gX1_second_w_X1_result rfl rfl rfl (by decide +kernel) ⟨Nat.le_of_ble_eq_true rfl, Nat.le_of_ble_eq_true rfl⟩) ⟨fun a U g mk q => q, fun U hU hW => ⟨rfl, congrArg Array.size hU⟩⟩ rfl rfl hl.1 rfl (lv_room (Nat.le_of_ble_eq_true rfl)) dX1_second_w_205 ⟨Nat.zero_le _, Nat.zero_le _⟩) hA hP hS (fun H locs hP hS => ?_)
                                            refine cw_l (va_runV (As := [.int a2, .long ((fm_result z_16 0 a0))]) (rest := []) ⟨hx, hb, hml, hown, hts⟩ (ctm_inMemory l dC dI h0 q_memory k_memory H.size v_atp v_vsAtp v_hgatp v_rights o_14.2 v_found v_wanted v_ofEntry m_memory a2 ((fm_result z_16 0 a0))) (cwV 2 hts gX1_second_w_X1_inMemory rfl rfl rfl (by decide +kernel) ⟨Nat.le_of_ble_eq_true rfl, Nat.le_of_ble_eq_true rfl⟩) ⟨fun a U g mk q => ⟨q.1, q.2.1, q.2.2.1, va_K.moved (u := U) (U := U.calling g mk a) (Vm.Alike.refl U.vm) q.2.2.2.1, q.2.2.2.2⟩, va_recv hK hP (ci := 1) (q0 := 0) rfl rfl, fun U hU hW => ⟨rfl, by rw [hU], by rw [hU]; exact hP, va_K.moved hW.alike hK, hD.weaken (fun _ _ _ _ => trivial)⟩⟩ rfl rfl hl.1 rfl (lv_room (Nat.le_of_ble_eq_true rfl)) dX1_second_w_208 ⟨Nat.zero_le _, Nat.zero_le _⟩) hA hD hP hS (fun o_32 H locs eo_32 hP hD hS => ?_)
                                            have hP : va_P (dC, dI) vwCl (wm h0 q_memory k_memory v_atp v_vsAtp v_hgatp v_rights o_32.2 v_found v_wanted v_ofEntry m_memory) H := hP
                                            have hD : va_D A (wm h0 q_memory k_memory v_atp v_vsAtp v_hgatp v_rights o_32.2 v_found v_wanted v_ofEntry m_memory) := hD
                                            exact W.lret (v := o_32.1) hx hb hr (fun t ht hW => ⟨⟨_, (o_32.1, o_32.2, v_wanted, v_ofEntry), rfl, ⟨rfl, by subst eo_32; subst ez_29; subst ez_16; subst ez_15; subst eo_14; subst ez_13; subst ez_12; subst ez_5; subst ez_4; subst eo_3; subst ez_2; subst ez_1; first | (rw [fm_second_w, if_pos c_4, if_pos c_84, if_neg c_108, if_pos c_116, if_pos c_232, if_pos c_242, if_pos c_252, if_pos c_84b, if_neg c_108b, if_neg c_116b, if_neg c_167, if_neg c_194]; done) | (simp only [fm_second_w, if_pos c_4, if_pos c_84, if_neg c_108, if_pos c_116, if_pos c_232, if_pos c_242, if_pos c_252, if_pos c_84b, if_neg c_108b, if_neg c_116b, if_neg c_167, if_neg c_194]; done) | (rw [fm_second_w, if_pos c_4, if_pos c_84, if_neg c_108, if_pos c_116, if_pos c_232, if_pos c_242, if_pos c_252, if_pos c_84b, if_neg c_108b, if_neg c_116b, if_neg c_167, if_neg c_194] <;> rfl)⟩, by rw [ht]; exact hP, va_K.moved hW.alike hK, hD⟩, hS.F ht⟩) hS.2.2 dX1_second_w_211
                                        · skip
                                          refine lv_if_ne (tgt := 190) hx hb dX1_second_w_175 (by decide) (fun c_175 => ?_) (fun c_175 => ?_)
                                          · skip
                                            refine lv_iconst (v := 0) hx hb dX1_second_w_190 (by decide) ?_
                                            exact W.eq (by rw [if_neg c_175] <;> rfl) (J191_175 _ _ hP hS)
                                          · skip
                                            refine lv_aload_n hx hb dX1_second_w_178 rfl (lv_at hl 6 rfl) ?_
                                            refine lv_iconst (v := 1) hx hb dX1_second_w_179 (by decide) ?_
                                            refine cr_i (va_runV (As := [.int 1]) (rest := [.int a1, .int z_16]) ⟨hx, hb, hml, hown, hts⟩ (ctm_has l dC dI h0 q_memory k_memory H.size v_atp v_vsAtp v_hgatp v_rights o_14.2 v_found v_wanted v_ofEntry m_memory 1) (cwV 1 hts gX1_second_w_X1_has rfl rfl rfl (by decide +kernel) ⟨Nat.le_of_ble_eq_true rfl, Nat.le_of_ble_eq_true rfl⟩) ⟨fun a U g mk q => ⟨q.1, q.2.1, q.2.2.1, va_K.moved (u := U) (U := U.calling g mk a) (Vm.Alike.refl U.vm) q.2.2.2.1, q.2.2.2.2⟩, va_recv hK hP (ci := 1) (q0 := 0) rfl rfl, fun U hU hW => ⟨rfl, by rw [hU], by rw [hU]; exact hP, va_K.moved hW.alike hK, hD.weaken (fun _ _ _ _ => trivial)⟩⟩ rfl rfl hl.1 rfl (lv_room (Nat.le_of_ble_eq_true rfl)) dX1_second_w_180 ⟨Nat.zero_le _, Nat.zero_le _⟩) hA hD hP hS (fun H locs hP hS => ?_)
                                            refine lv_if_eq (tgt := 190) hx hb dX1_second_w_183 (by decide) (fun c_183 => ?_) (fun c_183 => ?_)
                                            · skip
                                              refine lv_iconst (v := 0) hx hb dX1_second_w_190 (by decide) ?_
                                              exact W.eq (by rw [if_pos c_175, if_pos c_183] <;> rfl) (J191_175 _ _ hP hS)
                                            · skip
                                              refine lv_iconst (v := 1) hx hb dX1_second_w_186 (by decide) ?_
                                              refine lv_goto (tgt := 191) hx hb dX1_second_w_187 (by decide) ?_
                                              exact W.eq (by rw [if_pos c_175, if_neg c_183] <;> rfl) (J191_175 _ _ hP hS)
                                  · skip
                                    exact absurd (by decide) c_134
                                · skip
                                  exact absurd c_122 (by decide)
                          · skip
                            refine lv_lconst (v := 0) hx hb dX1_second_w_87 (by decide) ?_
                            exact W.lret (v := 0) hx hb hr (fun t ht hW => ⟨⟨_, (0, o_14.2, v_wanted, v_ofEntry), rfl, ⟨rfl, by subst ez_15; subst eo_14; subst ez_13; subst ez_12; subst ez_5; subst ez_4; subst eo_3; subst ez_2; subst ez_1; first | (rw [fm_second_w, if_pos c_4, if_pos c_84, if_neg c_108, if_pos c_116, if_pos c_232, if_pos c_242, if_pos c_252, if_neg c_84b]; done) | (simp only [fm_second_w, if_pos c_4, if_pos c_84, if_neg c_108, if_pos c_116, if_pos c_232, if_pos c_242, if_pos c_252, if_neg c_84b]; done) | (rw [fm_second_w, if_pos c_4, if_pos c_84, if_neg c_108, if_pos c_116, if_pos c_232, if_pos c_242, if_pos c_252, if_neg c_84b] <;> rfl)⟩, by rw [ht]; exact hP, va_K.moved hW.alike hK, hD⟩, hS.F ht⟩) hS.2.2 dX1_second_w_88
                        · skip
                          exact absurd c_44b (by decide)
                    · skip
                      refine lv_iconst (v := 0) hx hb dX1_second_w_255 (by decide) ?_
                      refine lv_istore (lv' := [(8, .int 0), (11, .int z_5), (9, .long z_4), (6, .long z_1), (0, .ref h0), (1, .long a0), (3, .int a1), (4, .int a2), (5, .int a3)]) hx hb dX1_second_w_256 hl (by decide) rfl (fun ls hl => ?_)
                      refine lv_iload hx hb dX1_second_w_258 (lv_at hl 1 rfl) ?_
                      refine lv_bipush (v := 10) hx hb dX1_second_w_260 (by decide) ?_
                      refine lv_iushr (v := jiushr z_5 10) hx hb dX1_second_w_262 rfl ?_
                      refine lv_i2l (v := (jiushr z_5 10).toInt64) hx hb dX1_second_w_263 rfl ?_
                      refine lv_bipush (v := 12) hx hb dX1_second_w_264 (by decide) ?_
                      refine lv_lshl (v := jlshl ((jiushr z_5 10).toInt64) 12) hx hb dX1_second_w_266 rfl ?_
                      refine lv_topl (fun z_33 ez_33 => ?_)
                      refine lv_lstore (lv' := [(6, .long z_33), (8, .int 0), (11, .int z_5), (9, .long z_4), (0, .ref h0), (1, .long a0), (3, .int a1), (4, .int a2), (5, .int a3)]) hx hb dX1_second_w_267 hl (by decide) rfl (fun ls hl => ?_)
                      refine lv_iinc (v := -1) (lv' := [(8, .int ((-1))), (6, .long z_33), (11, .int z_5), (9, .long z_4), (0, .ref h0), (1, .long a0), (3, .int a1), (4, .int a2), (5, .int a3)]) hx hb dX1_second_w_269 hl (k := 1) rfl (by decide) (by decide) rfl (fun ls hl => ?_)
                      refine lv_goto (tgt := 31) hx hb dX1_second_w_272 (by decide) ?_
                      refine lv_iload hx hb dX1_second_w_31 (lv_at hl 0 rfl) ?_
                      refine lv_if_lt (tgt := 275) hx hb dX1_second_w_33 (by decide) (fun c_33b => ?_) (fun c_33b => ?_)
                      · skip
                        refine lv_aload_n hx hb dX1_second_w_275 rfl (lv_at hl 4 rfl) ?_
                        refine lv_iload hx hb dX1_second_w_276 (lv_at hl 7 rfl) ?_
                        refine lv_bipush (v := 20) hx hb dX1_second_w_278 (by decide) ?_
                        refine lv_bipush (v := 21) hx hb dX1_second_w_280 (by decide) ?_
                        refine lv_bipush (v := 23) hx hb dX1_second_w_282 (by decide) ?_
                        refine cw_v (va_runV (As := [.int a2, .int 20, .int 21, .int 23]) (rest := []) ⟨hx, hb, hml, hown, hts⟩ (ctm_raise l dC dI h0 q_memory k_memory H.size v_atp v_vsAtp v_hgatp v_rights o_3.2 v_found v_wanted v_ofEntry m_memory a2 20 21 23) (cwV 4 hts gX1_second_w_X1_raise rfl rfl rfl (by decide +kernel) ⟨Nat.le_of_ble_eq_true rfl, Nat.le_of_ble_eq_true rfl⟩) ⟨fun a U g mk q => ⟨q.1, q.2.1, q.2.2.1, va_K.moved (u := U) (U := U.calling g mk a) (Vm.Alike.refl U.vm) q.2.2.2.1, q.2.2.2.2⟩, va_recv hK hP (ci := 1) (q0 := 0) rfl rfl, fun U hU hW => ⟨rfl, by rw [hU], by rw [hU]; exact hP, va_K.moved hW.alike hK, hD.weaken (fun _ _ _ _ => trivial)⟩⟩ rfl rfl hl.1 rfl (lv_room (Nat.le_of_ble_eq_true rfl)) dX1_second_w_284 ⟨Nat.zero_le _, Nat.zero_le _⟩) hA hD hP hS (fun o_34 H locs eo_34 hP hD hS => ?_)
                        have hP : va_P (dC, dI) vwCl (wm h0 q_memory k_memory v_atp v_vsAtp v_hgatp v_rights o_34 v_found v_wanted v_ofEntry m_memory) H := hP
                        have hD : va_D A (wm h0 q_memory k_memory v_atp v_vsAtp v_hgatp v_rights o_34 v_found v_wanted v_ofEntry m_memory) := hD
                        refine lv_aload_n hx hb dX1_second_w_287 rfl (lv_at hl 4 rfl) ?_
                        refine lv_lload_n hx hb dX1_second_w_288 rfl (lv_at hl 5 rfl) ?_
                        refine va_put (D := (dC, dI)) (ci := 1) (v := .long a0) (ty := .long) (C := RX1) (T := TX1) (N := 9) hx hb hts hwX tyX1 tyX1_ok nmX1 hown hK hP hD hS 0 rfl rfl 7 (by decide) (hts (.fieldLink RX1 73 "StageWalkerModel" "wanted" "J") (by decide +kernel)) (fun _ h9 => h9) rfl (by decide +kernel) rfl rfl (Nat.le_of_ble_eq_true rfl) dX1_second_w_289 (fun H locs hP hD hS => ?_)
                        have hP : va_P (dC, dI) vwCl (wm h0 q_memory k_memory v_atp v_vsAtp v_hgatp v_rights o_34 v_found a0 v_ofEntry m_memory) H := hP
                        have hD : va_D A (wm h0 q_memory k_memory v_atp v_vsAtp v_hgatp v_rights o_34 v_found a0 v_ofEntry m_memory) := hD
                        refine lv_aload_n hx hb dX1_second_w_292 rfl (lv_at hl 4 rfl) ?_
                        refine lv_iload hx hb dX1_second_w_293 (lv_at hl 8 rfl) ?_
                        refine va_put (D := (dC, dI)) (ci := 1) (v := .int a3) (ty := .boolean) (C := RX1) (T := TX1) (N := 9) hx hb hts hwX tyX1 tyX1_ok nmX1 hown hK hP hD hS 0 rfl rfl 8 (by decide) (hts (.fieldLink RX1 77 "StageWalkerModel" "ofEntry" "Z") (by decide +kernel)) (fun _ h9 => h9) rfl (by decide +kernel) (nb_z ha3) (fb_z ha3) (Nat.le_of_ble_eq_true rfl) dX1_second_w_295 (fun H locs hP hD hS => ?_)
                        have hP : va_P (dC, dI) vwCl (wm h0 q_memory k_memory v_atp v_vsAtp v_hgatp v_rights o_34 v_found a0 a3 m_memory) H := hP
                        have hD : va_D A (wm h0 q_memory k_memory v_atp v_vsAtp v_hgatp v_rights o_34 v_found a0 a3 m_memory) := hD
                        refine lv_lconst (v := 0) hx hb dX1_second_w_298 (by decide) ?_
                        exact W.lret (v := 0) hx hb hr (fun t ht hW => ⟨⟨_, (0, o_34, a0, a3), rfl, ⟨rfl, by subst eo_34; subst ez_33; subst ez_5; subst ez_4; subst eo_3; subst ez_2; subst ez_1; first | (rw [fm_second_w, if_pos c_4, if_pos c_84, if_neg c_108, if_pos c_116, if_pos c_232, if_pos c_242, if_neg c_252]; done) | (simp only [fm_second_w, if_pos c_4, if_pos c_84, if_neg c_108, if_pos c_116, if_pos c_232, if_pos c_242, if_neg c_252]; done) | (rw [fm_second_w, if_pos c_4, if_pos c_84, if_neg c_108, if_pos c_116, if_pos c_232, if_pos c_242, if_neg c_252] <;> rfl)⟩, by rw [ht]; exact hP, va_K.moved hW.alike hK, hD⟩, hS.F ht⟩) hS.2.2 dX1_second_w_299
                      · skip
                        exact absurd (by decide) c_33b
            · skip
              refine lv_iload hx hb dX1_second_w_119 (lv_at hl 2 rfl) ?_
              refine lv_iconst (v := 1) hx hb dX1_second_w_121 (by decide) ?_
              refine lv_icmp_ne (tgt := 129) hx hb dX1_second_w_122 (by decide) (fun c_122 => ?_) (fun c_122 => ?_)
              · skip
                exact absurd (by decide) c_122
              · skip
                refine lv_iconst (v := 1) hx hb dX1_second_w_125 (by decide) ?_
                refine lv_goto (tgt := 130) hx hb dX1_second_w_126 (by decide) ?_
                refine lv_istore (lv' := [(12, .int 1), (11, .int z_5), (9, .long z_4), (8, .int 1), (6, .long z_1), (0, .ref h0), (1, .long a0), (3, .int a1), (4, .int a2), (5, .int a3)]) hx hb dX1_second_w_130 hl (by decide) rfl (fun ls hl => ?_)
                refine lv_iload hx hb dX1_second_w_132 (lv_at hl 0 rfl) ?_
                refine lv_if_eq (tgt := 149) hx hb dX1_second_w_134 (by decide) (fun c_134 => ?_) (fun c_134 => ?_)
                · skip
                  exact absurd c_134 (by decide)
                · skip
                  refine lv_iload hx hb dX1_second_w_137 (lv_at hl 1 rfl) ?_
                  refine lv_bipush (v := 10) hx hb dX1_second_w_139 (by decide) ?_
                  refine lv_ishr hx hb dX1_second_w_141 ?_
                  refine lv_sipush (v := 1023) hx hb dX1_second_w_142 (by decide) ?_
                  refine lv_iand hx hb dX1_second_w_145 ?_
                  refine lj_i (j := 154) (z0 := if ((z_5 >>> (10 &&& 31)) &&& 1023) = 0 then 1 else 0) (rest := []) hP hS (fun H locs hP hS z_35 ez_35 => ?_) (fun J154_146 => ?_)
                  · skip
                    have oz_35 : z_35 = 0 ∨ z_35 = 1 := by rw [ez_35]; exact ite01 (Or.inr rfl) (Or.inl rfl)
                    refine lv_istore (lv' := [(13, .int z_35), (12, .int 1), (11, .int z_5), (9, .long z_4), (8, .int 1), (6, .long z_1), (0, .ref h0), (1, .long a0), (3, .int a1), (4, .int a2), (5, .int a3)]) hx hb dX1_second_w_154 hl (by decide) rfl (fun ls hl => ?_)
                    refine lv_iload hx hb dX1_second_w_156 (lv_at hl 0 rfl) ?_
                    refine lv_if_eq (tgt := 212) hx hb dX1_second_w_158 (by decide) (fun c_158 => ?_) (fun c_158 => ?_)
                    · skip
                      refine lv_iconst (v := 0) hx hb dX1_second_w_212 (by decide) ?_
                      refine lv_istore (lv' := [(8, .int 0), (13, .int z_35), (12, .int 1), (11, .int z_5), (9, .long z_4), (6, .long z_1), (0, .ref h0), (1, .long a0), (3, .int a1), (4, .int a2), (5, .int a3)]) hx hb dX1_second_w_213 hl (by decide) rfl (fun ls hl => ?_)
                      refine lv_goto (tgt := 258) hx hb dX1_second_w_215 (by decide) ?_
                      refine lv_iload hx hb dX1_second_w_258 (lv_at hl 3 rfl) ?_
                      refine lv_bipush (v := 10) hx hb dX1_second_w_260 (by decide) ?_
                      refine lv_iushr (v := jiushr z_5 10) hx hb dX1_second_w_262 rfl ?_
                      refine lv_i2l (v := (jiushr z_5 10).toInt64) hx hb dX1_second_w_263 rfl ?_
                      refine lv_bipush (v := 12) hx hb dX1_second_w_264 (by decide) ?_
                      refine lv_lshl (v := jlshl ((jiushr z_5 10).toInt64) 12) hx hb dX1_second_w_266 rfl ?_
                      refine lv_topl (fun z_36 ez_36 => ?_)
                      refine lv_lstore (lv' := [(6, .long z_36), (8, .int 0), (13, .int z_35), (12, .int 1), (11, .int z_5), (9, .long z_4), (0, .ref h0), (1, .long a0), (3, .int a1), (4, .int a2), (5, .int a3)]) hx hb dX1_second_w_267 hl (by decide) rfl (fun ls hl => ?_)
                      refine lv_iinc (v := -1) (lv' := [(8, .int ((-1))), (6, .long z_36), (13, .int z_35), (12, .int 1), (11, .int z_5), (9, .long z_4), (0, .ref h0), (1, .long a0), (3, .int a1), (4, .int a2), (5, .int a3)]) hx hb dX1_second_w_269 hl (k := 1) rfl (by decide) (by decide) rfl (fun ls hl => ?_)
                      refine lv_goto (tgt := 31) hx hb dX1_second_w_272 (by decide) ?_
                      refine lv_iload hx hb dX1_second_w_31 (lv_at hl 0 rfl) ?_
                      refine lv_if_lt (tgt := 275) hx hb dX1_second_w_33 (by decide) (fun c_33b => ?_) (fun c_33b => ?_)
                      · skip
                        refine lv_aload_n hx hb dX1_second_w_275 rfl (lv_at hl 6 rfl) ?_
                        refine lv_iload hx hb dX1_second_w_276 (lv_at hl 9 rfl) ?_
                        refine lv_bipush (v := 20) hx hb dX1_second_w_278 (by decide) ?_
                        refine lv_bipush (v := 21) hx hb dX1_second_w_280 (by decide) ?_
                        refine lv_bipush (v := 23) hx hb dX1_second_w_282 (by decide) ?_
                        refine cw_v (va_runV (As := [.int a2, .int 20, .int 21, .int 23]) (rest := []) ⟨hx, hb, hml, hown, hts⟩ (ctm_raise l dC dI h0 q_memory k_memory H.size v_atp v_vsAtp v_hgatp v_rights o_3.2 v_found v_wanted v_ofEntry m_memory a2 20 21 23) (cwV 4 hts gX1_second_w_X1_raise rfl rfl rfl (by decide +kernel) ⟨Nat.le_of_ble_eq_true rfl, Nat.le_of_ble_eq_true rfl⟩) ⟨fun a U g mk q => ⟨q.1, q.2.1, q.2.2.1, va_K.moved (u := U) (U := U.calling g mk a) (Vm.Alike.refl U.vm) q.2.2.2.1, q.2.2.2.2⟩, va_recv hK hP (ci := 1) (q0 := 0) rfl rfl, fun U hU hW => ⟨rfl, by rw [hU], by rw [hU]; exact hP, va_K.moved hW.alike hK, hD.weaken (fun _ _ _ _ => trivial)⟩⟩ rfl rfl hl.1 rfl (lv_room (Nat.le_of_ble_eq_true rfl)) dX1_second_w_284 ⟨Nat.zero_le _, Nat.zero_le _⟩) hA hD hP hS (fun o_37 H locs eo_37 hP hD hS => ?_)
                        have hP : va_P (dC, dI) vwCl (wm h0 q_memory k_memory v_atp v_vsAtp v_hgatp v_rights o_37 v_found v_wanted v_ofEntry m_memory) H := hP
                        have hD : va_D A (wm h0 q_memory k_memory v_atp v_vsAtp v_hgatp v_rights o_37 v_found v_wanted v_ofEntry m_memory) := hD
                        refine lv_aload_n hx hb dX1_second_w_287 rfl (lv_at hl 6 rfl) ?_
                        refine lv_lload_n hx hb dX1_second_w_288 rfl (lv_at hl 7 rfl) ?_
                        refine va_put (D := (dC, dI)) (ci := 1) (v := .long a0) (ty := .long) (C := RX1) (T := TX1) (N := 9) hx hb hts hwX tyX1 tyX1_ok nmX1 hown hK hP hD hS 0 rfl rfl 7 (by decide) (hts (.fieldLink RX1 73 "StageWalkerModel" "wanted" "J") (by decide +kernel)) (fun _ h9 => h9) rfl (by decide +kernel) rfl rfl (Nat.le_of_ble_eq_true rfl) dX1_second_w_289 (fun H locs hP hD hS => ?_)
                        have hP : va_P (dC, dI) vwCl (wm h0 q_memory k_memory v_atp v_vsAtp v_hgatp v_rights o_37 v_found a0 v_ofEntry m_memory) H := hP
                        have hD : va_D A (wm h0 q_memory k_memory v_atp v_vsAtp v_hgatp v_rights o_37 v_found a0 v_ofEntry m_memory) := hD
                        refine lv_aload_n hx hb dX1_second_w_292 rfl (lv_at hl 6 rfl) ?_
                        refine lv_iload hx hb dX1_second_w_293 (lv_at hl 10 rfl) ?_
                        refine va_put (D := (dC, dI)) (ci := 1) (v := .int a3) (ty := .boolean) (C := RX1) (T := TX1) (N := 9) hx hb hts hwX tyX1 tyX1_ok nmX1 hown hK hP hD hS 0 rfl rfl 8 (by decide) (hts (.fieldLink RX1 77 "StageWalkerModel" "ofEntry" "Z") (by decide +kernel)) (fun _ h9 => h9) rfl (by decide +kernel) (nb_z ha3) (fb_z ha3) (Nat.le_of_ble_eq_true rfl) dX1_second_w_295 (fun H locs hP hD hS => ?_)
                        have hP : va_P (dC, dI) vwCl (wm h0 q_memory k_memory v_atp v_vsAtp v_hgatp v_rights o_37 v_found a0 a3 m_memory) H := hP
                        have hD : va_D A (wm h0 q_memory k_memory v_atp v_vsAtp v_hgatp v_rights o_37 v_found a0 a3 m_memory) := hD
                        refine lv_lconst (v := 0) hx hb dX1_second_w_298 (by decide) ?_
                        exact W.lret (v := 0) hx hb hr (fun t ht hW => ⟨⟨_, (0, o_37, a0, a3), rfl, ⟨rfl, by subst eo_37; subst ez_36; subst ez_35; subst ez_5; subst ez_4; subst eo_3; subst ez_2; subst ez_1; first | (rw [fm_second_w, if_pos c_4, if_pos c_84, if_neg c_108, if_neg c_116, if_pos c_158]; done) | (simp only [fm_second_w, if_pos c_4, if_pos c_84, if_neg c_108, if_neg c_116, if_pos c_158]; done) | (rw [fm_second_w, if_pos c_4, if_pos c_84, if_neg c_108, if_neg c_116, if_pos c_158] <;> rfl)⟩, by rw [ht]; exact hP, va_K.moved hW.alike hK, hD⟩, hS.F ht⟩) hS.2.2 dX1_second_w_299
                      · skip
                        exact absurd (by decide) c_33b
                    · skip
                      refine lv_iload hx hb dX1_second_w_161 (lv_at hl 2 rfl) ?_
                      refine lv_iconst (v := 4) hx hb dX1_second_w_163 (by decide) ?_
                      refine cs_i (va_runS (As := [.int z_5, .int 4]) (rest := []) ⟨hx, hb, hml, hown, hts⟩ (ctm_isSet l H.size z_5 4) (va_cwS 2 hts gX1_second_w_X1_isSet rfl rfl rfl (by decide +kernel) ⟨Nat.le_of_ble_eq_true rfl, Nat.le_of_ble_eq_true rfl⟩) ⟨fun a U g mk q => q, fun U hU hW => ⟨rfl, congrArg Array.size hU⟩⟩ rfl rfl hl.1 rfl (lv_room (Nat.le_of_ble_eq_true rfl)) dX1_second_w_164 ⟨Nat.zero_le _, Nat.zero_le _⟩) hA hP hS (fun H locs hP hS => ?_)
                      refine lv_if_eq (tgt := 212) hx hb dX1_second_w_167 (by decide) (fun c_167 => ?_) (fun c_167 => ?_)
                      · skip
                        refine lv_iconst (v := 0) hx hb dX1_second_w_212 (by decide) ?_
                        refine lv_istore (lv' := [(8, .int 0), (13, .int z_35), (12, .int 1), (11, .int z_5), (9, .long z_4), (6, .long z_1), (0, .ref h0), (1, .long a0), (3, .int a1), (4, .int a2), (5, .int a3)]) hx hb dX1_second_w_213 hl (by decide) rfl (fun ls hl => ?_)
                        refine lv_goto (tgt := 258) hx hb dX1_second_w_215 (by decide) ?_
                        refine lv_iload hx hb dX1_second_w_258 (lv_at hl 3 rfl) ?_
                        refine lv_bipush (v := 10) hx hb dX1_second_w_260 (by decide) ?_
                        refine lv_iushr (v := jiushr z_5 10) hx hb dX1_second_w_262 rfl ?_
                        refine lv_i2l (v := (jiushr z_5 10).toInt64) hx hb dX1_second_w_263 rfl ?_
                        refine lv_bipush (v := 12) hx hb dX1_second_w_264 (by decide) ?_
                        refine lv_lshl (v := jlshl ((jiushr z_5 10).toInt64) 12) hx hb dX1_second_w_266 rfl ?_
                        refine lv_topl (fun z_38 ez_38 => ?_)
                        refine lv_lstore (lv' := [(6, .long z_38), (8, .int 0), (13, .int z_35), (12, .int 1), (11, .int z_5), (9, .long z_4), (0, .ref h0), (1, .long a0), (3, .int a1), (4, .int a2), (5, .int a3)]) hx hb dX1_second_w_267 hl (by decide) rfl (fun ls hl => ?_)
                        refine lv_iinc (v := -1) (lv' := [(8, .int ((-1))), (6, .long z_38), (13, .int z_35), (12, .int 1), (11, .int z_5), (9, .long z_4), (0, .ref h0), (1, .long a0), (3, .int a1), (4, .int a2), (5, .int a3)]) hx hb dX1_second_w_269 hl (k := 1) rfl (by decide) (by decide) rfl (fun ls hl => ?_)
                        refine lv_goto (tgt := 31) hx hb dX1_second_w_272 (by decide) ?_
                        refine lv_iload hx hb dX1_second_w_31 (lv_at hl 0 rfl) ?_
                        refine lv_if_lt (tgt := 275) hx hb dX1_second_w_33 (by decide) (fun c_33b => ?_) (fun c_33b => ?_)
                        · skip
                          refine lv_aload_n hx hb dX1_second_w_275 rfl (lv_at hl 6 rfl) ?_
                          refine lv_iload hx hb dX1_second_w_276 (lv_at hl 9 rfl) ?_
                          refine lv_bipush (v := 20) hx hb dX1_second_w_278 (by decide) ?_
                          refine lv_bipush (v := 21) hx hb dX1_second_w_280 (by decide) ?_
                          refine lv_bipush (v := 23) hx hb dX1_second_w_282 (by decide) ?_
                          refine cw_v (va_runV (As := [.int a2, .int 20, .int 21, .int 23]) (rest := []) ⟨hx, hb, hml, hown, hts⟩ (ctm_raise l dC dI h0 q_memory k_memory H.size v_atp v_vsAtp v_hgatp v_rights o_3.2 v_found v_wanted v_ofEntry m_memory a2 20 21 23) (cwV 4 hts gX1_second_w_X1_raise rfl rfl rfl (by decide +kernel) ⟨Nat.le_of_ble_eq_true rfl, Nat.le_of_ble_eq_true rfl⟩) ⟨fun a U g mk q => ⟨q.1, q.2.1, q.2.2.1, va_K.moved (u := U) (U := U.calling g mk a) (Vm.Alike.refl U.vm) q.2.2.2.1, q.2.2.2.2⟩, va_recv hK hP (ci := 1) (q0 := 0) rfl rfl, fun U hU hW => ⟨rfl, by rw [hU], by rw [hU]; exact hP, va_K.moved hW.alike hK, hD.weaken (fun _ _ _ _ => trivial)⟩⟩ rfl rfl hl.1 rfl (lv_room (Nat.le_of_ble_eq_true rfl)) dX1_second_w_284 ⟨Nat.zero_le _, Nat.zero_le _⟩) hA hD hP hS (fun o_39 H locs eo_39 hP hD hS => ?_)
                          have hP : va_P (dC, dI) vwCl (wm h0 q_memory k_memory v_atp v_vsAtp v_hgatp v_rights o_39 v_found v_wanted v_ofEntry m_memory) H := hP
                          have hD : va_D A (wm h0 q_memory k_memory v_atp v_vsAtp v_hgatp v_rights o_39 v_found v_wanted v_ofEntry m_memory) := hD
                          refine lv_aload_n hx hb dX1_second_w_287 rfl (lv_at hl 6 rfl) ?_
                          refine lv_lload_n hx hb dX1_second_w_288 rfl (lv_at hl 7 rfl) ?_
                          refine va_put (D := (dC, dI)) (ci := 1) (v := .long a0) (ty := .long) (C := RX1) (T := TX1) (N := 9) hx hb hts hwX tyX1 tyX1_ok nmX1 hown hK hP hD hS 0 rfl rfl 7 (by decide) (hts (.fieldLink RX1 73 "StageWalkerModel" "wanted" "J") (by decide +kernel)) (fun _ h9 => h9) rfl (by decide +kernel) rfl rfl (Nat.le_of_ble_eq_true rfl) dX1_second_w_289 (fun H locs hP hD hS => ?_)
                          have hP : va_P (dC, dI) vwCl (wm h0 q_memory k_memory v_atp v_vsAtp v_hgatp v_rights o_39 v_found a0 v_ofEntry m_memory) H := hP
                          have hD : va_D A (wm h0 q_memory k_memory v_atp v_vsAtp v_hgatp v_rights o_39 v_found a0 v_ofEntry m_memory) := hD
                          refine lv_aload_n hx hb dX1_second_w_292 rfl (lv_at hl 6 rfl) ?_
                          refine lv_iload hx hb dX1_second_w_293 (lv_at hl 10 rfl) ?_
                          refine va_put (D := (dC, dI)) (ci := 1) (v := .int a3) (ty := .boolean) (C := RX1) (T := TX1) (N := 9) hx hb hts hwX tyX1 tyX1_ok nmX1 hown hK hP hD hS 0 rfl rfl 8 (by decide) (hts (.fieldLink RX1 77 "StageWalkerModel" "ofEntry" "Z") (by decide +kernel)) (fun _ h9 => h9) rfl (by decide +kernel) (nb_z ha3) (fb_z ha3) (Nat.le_of_ble_eq_true rfl) dX1_second_w_295 (fun H locs hP hD hS => ?_)
                          have hP : va_P (dC, dI) vwCl (wm h0 q_memory k_memory v_atp v_vsAtp v_hgatp v_rights o_39 v_found a0 a3 m_memory) H := hP
                          have hD : va_D A (wm h0 q_memory k_memory v_atp v_vsAtp v_hgatp v_rights o_39 v_found a0 a3 m_memory) := hD
                          refine lv_lconst (v := 0) hx hb dX1_second_w_298 (by decide) ?_
                          exact W.lret (v := 0) hx hb hr (fun t ht hW => ⟨⟨_, (0, o_39, a0, a3), rfl, ⟨rfl, by subst eo_39; subst ez_38; subst ez_35; subst ez_5; subst ez_4; subst eo_3; subst ez_2; subst ez_1; first | (rw [fm_second_w, if_pos c_4, if_pos c_84, if_neg c_108, if_neg c_116, if_neg c_158, if_pos c_167]; done) | (simp only [fm_second_w, if_pos c_4, if_pos c_84, if_neg c_108, if_neg c_116, if_neg c_158, if_pos c_167]; done) | (rw [fm_second_w, if_pos c_4, if_pos c_84, if_neg c_108, if_neg c_116, if_neg c_158, if_pos c_167] <;> rfl)⟩, by rw [ht]; exact hP, va_K.moved hW.alike hK, hD⟩, hS.F ht⟩) hS.2.2 dX1_second_w_299
                        · skip
                          exact absurd (by decide) c_33b
                      · skip
                        refine lv_iload hx hb dX1_second_w_170 (lv_at hl 2 rfl) ?_
                        refine lv_iload_n hx hb dX1_second_w_172 rfl (lv_at hl 8 rfl) ?_
                        refine lv_iload hx hb dX1_second_w_173 (lv_at hl 10 rfl) ?_
                        refine lj_i (j := 191) (z0 := if a3 = 0 then if ((fm_has v_rights 1)) = 0 then 0 else 1 else 0) (rest := [.int a1, .int z_5]) hP hS (fun H locs hP hS z_40 ez_40 => ?_) (fun J191_175 => ?_)
                        · skip
                          have oz_40 : z_40 = 0 ∨ z_40 = 1 := by rw [ez_40]; exact ite01 (ite01 (Or.inl rfl) (Or.inr rfl)) (Or.inl rfl)
                          refine cs_i (va_runS (As := [.int z_5, .int a1, .int z_40]) (rest := []) ⟨hx, hb, hml, hown, hts⟩ (ctm_allows l H.size z_5 a1 z_40) (va_cwS 3 hts gX1_second_w_X1_allows rfl rfl rfl (by decide +kernel) ⟨Nat.le_of_ble_eq_true rfl, Nat.le_of_ble_eq_true rfl⟩) ⟨fun a U g mk q => q, fun U hU hW => ⟨rfl, congrArg Array.size hU⟩⟩ rfl rfl hl.1 rfl (lv_room (Nat.le_of_ble_eq_true rfl)) dX1_second_w_191 ⟨Nat.zero_le _, Nat.zero_le _⟩) hA hP hS (fun H locs hP hS => ?_)
                          refine lv_if_eq (tgt := 212) hx hb dX1_second_w_194 (by decide) (fun c_194 => ?_) (fun c_194 => ?_)
                          · skip
                            refine lv_iconst (v := 0) hx hb dX1_second_w_212 (by decide) ?_
                            refine lv_istore (lv' := [(8, .int 0), (13, .int z_35), (12, .int 1), (11, .int z_5), (9, .long z_4), (6, .long z_1), (0, .ref h0), (1, .long a0), (3, .int a1), (4, .int a2), (5, .int a3)]) hx hb dX1_second_w_213 hl (by decide) rfl (fun ls hl => ?_)
                            refine lv_goto (tgt := 258) hx hb dX1_second_w_215 (by decide) ?_
                            refine lv_iload hx hb dX1_second_w_258 (lv_at hl 3 rfl) ?_
                            refine lv_bipush (v := 10) hx hb dX1_second_w_260 (by decide) ?_
                            refine lv_iushr (v := jiushr z_5 10) hx hb dX1_second_w_262 rfl ?_
                            refine lv_i2l (v := (jiushr z_5 10).toInt64) hx hb dX1_second_w_263 rfl ?_
                            refine lv_bipush (v := 12) hx hb dX1_second_w_264 (by decide) ?_
                            refine lv_lshl (v := jlshl ((jiushr z_5 10).toInt64) 12) hx hb dX1_second_w_266 rfl ?_
                            refine lv_topl (fun z_41 ez_41 => ?_)
                            refine lv_lstore (lv' := [(6, .long z_41), (8, .int 0), (13, .int z_35), (12, .int 1), (11, .int z_5), (9, .long z_4), (0, .ref h0), (1, .long a0), (3, .int a1), (4, .int a2), (5, .int a3)]) hx hb dX1_second_w_267 hl (by decide) rfl (fun ls hl => ?_)
                            refine lv_iinc (v := -1) (lv' := [(8, .int ((-1))), (6, .long z_41), (13, .int z_35), (12, .int 1), (11, .int z_5), (9, .long z_4), (0, .ref h0), (1, .long a0), (3, .int a1), (4, .int a2), (5, .int a3)]) hx hb dX1_second_w_269 hl (k := 1) rfl (by decide) (by decide) rfl (fun ls hl => ?_)
                            refine lv_goto (tgt := 31) hx hb dX1_second_w_272 (by decide) ?_
                            refine lv_iload hx hb dX1_second_w_31 (lv_at hl 0 rfl) ?_
                            refine lv_if_lt (tgt := 275) hx hb dX1_second_w_33 (by decide) (fun c_33b => ?_) (fun c_33b => ?_)
                            · skip
                              refine lv_aload_n hx hb dX1_second_w_275 rfl (lv_at hl 6 rfl) ?_
                              refine lv_iload hx hb dX1_second_w_276 (lv_at hl 9 rfl) ?_
                              refine lv_bipush (v := 20) hx hb dX1_second_w_278 (by decide) ?_
                              refine lv_bipush (v := 21) hx hb dX1_second_w_280 (by decide) ?_
                              refine lv_bipush (v := 23) hx hb dX1_second_w_282 (by decide) ?_
                              refine cw_v (va_runV (As := [.int a2, .int 20, .int 21, .int 23]) (rest := []) ⟨hx, hb, hml, hown, hts⟩ (ctm_raise l dC dI h0 q_memory k_memory H.size v_atp v_vsAtp v_hgatp v_rights o_3.2 v_found v_wanted v_ofEntry m_memory a2 20 21 23) (cwV 4 hts gX1_second_w_X1_raise rfl rfl rfl (by decide +kernel) ⟨Nat.le_of_ble_eq_true rfl, Nat.le_of_ble_eq_true rfl⟩) ⟨fun a U g mk q => ⟨q.1, q.2.1, q.2.2.1, va_K.moved (u := U) (U := U.calling g mk a) (Vm.Alike.refl U.vm) q.2.2.2.1, q.2.2.2.2⟩, va_recv hK hP (ci := 1) (q0 := 0) rfl rfl, fun U hU hW => ⟨rfl, by rw [hU], by rw [hU]; exact hP, va_K.moved hW.alike hK, hD.weaken (fun _ _ _ _ => trivial)⟩⟩ rfl rfl hl.1 rfl (lv_room (Nat.le_of_ble_eq_true rfl)) dX1_second_w_284 ⟨Nat.zero_le _, Nat.zero_le _⟩) hA hD hP hS (fun o_42 H locs eo_42 hP hD hS => ?_)
                              have hP : va_P (dC, dI) vwCl (wm h0 q_memory k_memory v_atp v_vsAtp v_hgatp v_rights o_42 v_found v_wanted v_ofEntry m_memory) H := hP
                              have hD : va_D A (wm h0 q_memory k_memory v_atp v_vsAtp v_hgatp v_rights o_42 v_found v_wanted v_ofEntry m_memory) := hD
                              refine lv_aload_n hx hb dX1_second_w_287 rfl (lv_at hl 6 rfl) ?_
                              refine lv_lload_n hx hb dX1_second_w_288 rfl (lv_at hl 7 rfl) ?_
                              refine va_put (D := (dC, dI)) (ci := 1) (v := .long a0) (ty := .long) (C := RX1) (T := TX1) (N := 9) hx hb hts hwX tyX1 tyX1_ok nmX1 hown hK hP hD hS 0 rfl rfl 7 (by decide) (hts (.fieldLink RX1 73 "StageWalkerModel" "wanted" "J") (by decide +kernel)) (fun _ h9 => h9) rfl (by decide +kernel) rfl rfl (Nat.le_of_ble_eq_true rfl) dX1_second_w_289 (fun H locs hP hD hS => ?_)
                              have hP : va_P (dC, dI) vwCl (wm h0 q_memory k_memory v_atp v_vsAtp v_hgatp v_rights o_42 v_found a0 v_ofEntry m_memory) H := hP
                              have hD : va_D A (wm h0 q_memory k_memory v_atp v_vsAtp v_hgatp v_rights o_42 v_found a0 v_ofEntry m_memory) := hD
                              refine lv_aload_n hx hb dX1_second_w_292 rfl (lv_at hl 6 rfl) ?_
                              refine lv_iload hx hb dX1_second_w_293 (lv_at hl 10 rfl) ?_
                              refine va_put (D := (dC, dI)) (ci := 1) (v := .int a3) (ty := .boolean) (C := RX1) (T := TX1) (N := 9) hx hb hts hwX tyX1 tyX1_ok nmX1 hown hK hP hD hS 0 rfl rfl 8 (by decide) (hts (.fieldLink RX1 77 "StageWalkerModel" "ofEntry" "Z") (by decide +kernel)) (fun _ h9 => h9) rfl (by decide +kernel) (nb_z ha3) (fb_z ha3) (Nat.le_of_ble_eq_true rfl) dX1_second_w_295 (fun H locs hP hD hS => ?_)
                              have hP : va_P (dC, dI) vwCl (wm h0 q_memory k_memory v_atp v_vsAtp v_hgatp v_rights o_42 v_found a0 a3 m_memory) H := hP
                              have hD : va_D A (wm h0 q_memory k_memory v_atp v_vsAtp v_hgatp v_rights o_42 v_found a0 a3 m_memory) := hD
                              refine lv_lconst (v := 0) hx hb dX1_second_w_298 (by decide) ?_
                              exact W.lret (v := 0) hx hb hr (fun t ht hW => ⟨⟨_, (0, o_42, a0, a3), rfl, ⟨rfl, by subst eo_42; subst ez_41; subst ez_40; subst ez_35; subst ez_5; subst ez_4; subst eo_3; subst ez_2; subst ez_1; first | (rw [fm_second_w, if_pos c_4, if_pos c_84, if_neg c_108, if_neg c_116, if_neg c_158, if_neg c_167, if_pos c_194]; done) | (simp only [fm_second_w, if_pos c_4, if_pos c_84, if_neg c_108, if_neg c_116, if_neg c_158, if_neg c_167, if_pos c_194]; done) | (rw [fm_second_w, if_pos c_4, if_pos c_84, if_neg c_108, if_neg c_116, if_neg c_158, if_neg c_167, if_pos c_194] <;> rfl)⟩, by rw [ht]; exact hP, va_K.moved hW.alike hK, hD⟩, hS.F ht⟩) hS.2.2 dX1_second_w_299
                            · skip
                              exact absurd (by decide) c_33b
                          · skip
                            refine lv_aload_n hx hb dX1_second_w_197 rfl (lv_at hl 6 rfl) ?_
                            refine lv_iload hx hb dX1_second_w_198 (lv_at hl 9 rfl) ?_
                            refine lv_iload hx hb dX1_second_w_200 (lv_at hl 2 rfl) ?_
                            refine lv_iload hx hb dX1_second_w_202 (lv_at hl 1 rfl) ?_
                            refine lv_lload_n hx hb dX1_second_w_204 rfl (lv_at hl 7 rfl) ?_
                            refine cs_l (va_runS (As := [.int z_5, .int 1, .long a0]) (rest := [.int a2, .ref h0]) ⟨hx, hb, hml, hown, hts⟩ (ctm_result l H.size z_5 1 a0) (va_cwS 3 hts gX1_second_w_X1_result rfl rfl rfl (by decide +kernel) ⟨Nat.le_of_ble_eq_true rfl, Nat.le_of_ble_eq_true rfl⟩) ⟨fun a U g mk q => q, fun U hU hW => ⟨rfl, congrArg Array.size hU⟩⟩ rfl rfl hl.1 rfl (lv_room (Nat.le_of_ble_eq_true rfl)) dX1_second_w_205 ⟨Nat.zero_le _, Nat.zero_le _⟩) hA hP hS (fun H locs hP hS => ?_)
                            refine cw_l (va_runV (As := [.int a2, .long ((fm_result z_5 1 a0))]) (rest := []) ⟨hx, hb, hml, hown, hts⟩ (ctm_inMemory l dC dI h0 q_memory k_memory H.size v_atp v_vsAtp v_hgatp v_rights o_3.2 v_found v_wanted v_ofEntry m_memory a2 ((fm_result z_5 1 a0))) (cwV 2 hts gX1_second_w_X1_inMemory rfl rfl rfl (by decide +kernel) ⟨Nat.le_of_ble_eq_true rfl, Nat.le_of_ble_eq_true rfl⟩) ⟨fun a U g mk q => ⟨q.1, q.2.1, q.2.2.1, va_K.moved (u := U) (U := U.calling g mk a) (Vm.Alike.refl U.vm) q.2.2.2.1, q.2.2.2.2⟩, va_recv hK hP (ci := 1) (q0 := 0) rfl rfl, fun U hU hW => ⟨rfl, by rw [hU], by rw [hU]; exact hP, va_K.moved hW.alike hK, hD.weaken (fun _ _ _ _ => trivial)⟩⟩ rfl rfl hl.1 rfl (lv_room (Nat.le_of_ble_eq_true rfl)) dX1_second_w_208 ⟨Nat.zero_le _, Nat.zero_le _⟩) hA hD hP hS (fun o_43 H locs eo_43 hP hD hS => ?_)
                            have hP : va_P (dC, dI) vwCl (wm h0 q_memory k_memory v_atp v_vsAtp v_hgatp v_rights o_43.2 v_found v_wanted v_ofEntry m_memory) H := hP
                            have hD : va_D A (wm h0 q_memory k_memory v_atp v_vsAtp v_hgatp v_rights o_43.2 v_found v_wanted v_ofEntry m_memory) := hD
                            exact W.lret (v := o_43.1) hx hb hr (fun t ht hW => ⟨⟨_, (o_43.1, o_43.2, v_wanted, v_ofEntry), rfl, ⟨rfl, by subst eo_43; subst ez_40; subst ez_35; subst ez_5; subst ez_4; subst eo_3; subst ez_2; subst ez_1; first | (rw [fm_second_w, if_pos c_4, if_pos c_84, if_neg c_108, if_neg c_116, if_neg c_158, if_neg c_167, if_neg c_194]; done) | (simp only [fm_second_w, if_pos c_4, if_pos c_84, if_neg c_108, if_neg c_116, if_neg c_158, if_neg c_167, if_neg c_194]; done) | (rw [fm_second_w, if_pos c_4, if_pos c_84, if_neg c_108, if_neg c_116, if_neg c_158, if_neg c_167, if_neg c_194] <;> rfl)⟩, by rw [ht]; exact hP, va_K.moved hW.alike hK, hD⟩, hS.F ht⟩) hS.2.2 dX1_second_w_211
                        · skip
                          refine lv_if_ne (tgt := 190) hx hb dX1_second_w_175 (by decide) (fun c_175 => ?_) (fun c_175 => ?_)
                          · skip
                            refine lv_iconst (v := 0) hx hb dX1_second_w_190 (by decide) ?_
                            exact W.eq (by rw [if_neg c_175] <;> rfl) (J191_175 _ _ hP hS)
                          · skip
                            refine lv_aload_n hx hb dX1_second_w_178 rfl (lv_at hl 6 rfl) ?_
                            refine lv_iconst (v := 1) hx hb dX1_second_w_179 (by decide) ?_
                            refine cr_i (va_runV (As := [.int 1]) (rest := [.int a1, .int z_5]) ⟨hx, hb, hml, hown, hts⟩ (ctm_has l dC dI h0 q_memory k_memory H.size v_atp v_vsAtp v_hgatp v_rights o_3.2 v_found v_wanted v_ofEntry m_memory 1) (cwV 1 hts gX1_second_w_X1_has rfl rfl rfl (by decide +kernel) ⟨Nat.le_of_ble_eq_true rfl, Nat.le_of_ble_eq_true rfl⟩) ⟨fun a U g mk q => ⟨q.1, q.2.1, q.2.2.1, va_K.moved (u := U) (U := U.calling g mk a) (Vm.Alike.refl U.vm) q.2.2.2.1, q.2.2.2.2⟩, va_recv hK hP (ci := 1) (q0 := 0) rfl rfl, fun U hU hW => ⟨rfl, by rw [hU], by rw [hU]; exact hP, va_K.moved hW.alike hK, hD.weaken (fun _ _ _ _ => trivial)⟩⟩ rfl rfl hl.1 rfl (lv_room (Nat.le_of_ble_eq_true rfl)) dX1_second_w_180 ⟨Nat.zero_le _, Nat.zero_le _⟩) hA hD hP hS (fun H locs hP hS => ?_)
                            refine lv_if_eq (tgt := 190) hx hb dX1_second_w_183 (by decide) (fun c_183 => ?_) (fun c_183 => ?_)
                            · skip
                              refine lv_iconst (v := 0) hx hb dX1_second_w_190 (by decide) ?_
                              exact W.eq (by rw [if_pos c_175, if_pos c_183] <;> rfl) (J191_175 _ _ hP hS)
                            · skip
                              refine lv_iconst (v := 1) hx hb dX1_second_w_186 (by decide) ?_
                              refine lv_goto (tgt := 191) hx hb dX1_second_w_187 (by decide) ?_
                              exact W.eq (by rw [if_pos c_175, if_neg c_183] <;> rfl) (J191_175 _ _ hP hS)
                  · skip
                    refine lv_if_ne (tgt := 153) hx hb dX1_second_w_146 (by decide) (fun c_146 => ?_) (fun c_146 => ?_)
                    · skip
                      refine lv_iconst (v := 0) hx hb dX1_second_w_153 (by decide) ?_
                      exact W.eq (by rw [if_neg c_146] <;> rfl) (J154_146 _ _ hP hS)
                    · skip
                      refine lv_iconst (v := 1) hx hb dX1_second_w_149 (by decide) ?_
                      refine lv_goto (tgt := 154) hx hb dX1_second_w_150 (by decide) ?_
                      exact W.eq (by rw [if_pos c_146] <;> rfl) (J154_146 _ _ hP hS)
        · skip
          refine lv_lconst (v := 0) hx hb dX1_second_w_87 (by decide) ?_
          exact W.lret (v := 0) hx hb hr (fun t ht hW => ⟨⟨_, (0, o_3.2, v_wanted, v_ofEntry), rfl, ⟨rfl, by subst ez_4; subst eo_3; subst ez_2; subst ez_1; first | (rw [fm_second_w, if_pos c_4, if_neg c_84]; done) | (simp only [fm_second_w, if_pos c_4, if_neg c_84]; done) | (rw [fm_second_w, if_pos c_4, if_neg c_84] <;> rfl)⟩, by rw [ht]; exact hP, va_K.moved hW.alike hK, hD⟩, hS.F ht⟩) hS.2.2 dX1_second_w_88
  · skip
    refine lv_aload_n hx hb dX1_second_w_7 rfl (lv_at hl 0 rfl) ?_
    refine lv_iload hx hb dX1_second_w_8 (lv_at hl 3 rfl) ?_
    refine lv_lload_n hx hb dX1_second_w_10 rfl (lv_at hl 1 rfl) ?_
    refine cw_l (va_runV (As := [.int a2, .long a0]) (rest := []) ⟨hx, hb, hml, hown, hts⟩ (ctm_inMemory l dC dI h0 q_memory k_memory s.heap.size v_atp v_vsAtp v_hgatp v_rights v_code v_found v_wanted v_ofEntry m_memory a2 a0) (cwV 2 hts gX1_second_w_X1_inMemory rfl rfl rfl (by decide +kernel) ⟨Nat.le_of_ble_eq_true rfl, Nat.le_of_ble_eq_true rfl⟩) ⟨fun a U g mk q => ⟨q.1, q.2.1, q.2.2.1, va_K.moved (u := U) (U := U.calling g mk a) (Vm.Alike.refl U.vm) q.2.2.2.1, q.2.2.2.2⟩, va_recv hK hP (ci := 1) (q0 := 0) rfl rfl, fun U hU hW => ⟨rfl, by rw [hU], by rw [hU]; exact hP, va_K.moved hW.alike hK, hD.weaken (fun _ _ _ _ => trivial)⟩⟩ rfl rfl hl.1 rfl (lv_room (Nat.le_of_ble_eq_true rfl)) dX1_second_w_11 ⟨Nat.zero_le _, Nat.zero_le _⟩) hA hD hP hS (fun o_44 H locs eo_44 hP hD hS => ?_)
    have hP : va_P (dC, dI) vwCl (wm h0 q_memory k_memory v_atp v_vsAtp v_hgatp v_rights o_44.2 v_found v_wanted v_ofEntry m_memory) H := hP
    have hD : va_D A (wm h0 q_memory k_memory v_atp v_vsAtp v_hgatp v_rights o_44.2 v_found v_wanted v_ofEntry m_memory) := hD
    exact W.lret (v := o_44.1) hx hb hr (fun t ht hW => ⟨⟨_, (o_44.1, o_44.2, v_wanted, v_ofEntry), rfl, ⟨rfl, by subst eo_44; first | (rw [fm_second_w, if_neg c_4]; done) | (simp only [fm_second_w, if_neg c_4]; done) | (rw [fm_second_w, if_neg c_4] <;> rfl)⟩, by rw [ht]; exact hP, va_K.moved hW.alike hK, hD⟩, hS.F ht⟩) hS.2.2 dX1_second_w_14
